section
-- ===== PART A: goes FIRST, ahead of the names: the tables' words, and 'selects' of the private methods out of them =====
/-- a private method of a class that the tables say can be made, by its rows of tables_1 -/
def lw_okq (q : MethodName × Nat) : Prop := (q.1.cls ≠ "java/lang/invoke/MethodHandle" ∧ q.1.cls ≠ "java/lang/invoke/VarHandle") ∧ Cond.instantiable q.1.cls q.2 ∈ tables_1 ∧ Cond.privateMethod q.1 ∈ tables_1 ∧ Cond.instanceMethod q.1 ∈ tables_1
theorem lw_p0 : lw_okq (⟨"java/lang/Throwable", "fillInStackTrace", "(I)Ljava/lang/Throwable;"⟩, 6) := ⟨⟨by decide +kernel, by decide +kernel⟩, List.mem_of_getElem? (i := 249) (by decide +kernel), List.mem_of_getElem? (i := 247) (by decide +kernel), List.mem_of_getElem? (i := 248) (by decide +kernel)⟩
theorem lw_p1 : lw_okq (⟨"FormatDesk", "forgetLatestRun", "()V"⟩, 10) := ⟨⟨by decide +kernel, by decide +kernel⟩, List.mem_of_getElem? (i := 22) (by decide +kernel), List.mem_of_getElem? (i := 294) (by decide +kernel), List.mem_of_getElem? (i := 295) (by decide +kernel)⟩
theorem lw_p2 : lw_okq (⟨"FormatDesk", "placeOfWrong", "()I"⟩, 10) := ⟨⟨by decide +kernel, by decide +kernel⟩, List.mem_of_getElem? (i := 22) (by decide +kernel), List.mem_of_getElem? (i := 298) (by decide +kernel), List.mem_of_getElem? (i := 299) (by decide +kernel)⟩
theorem lw_p3 : lw_okq (⟨"FormatDesk$Directive", "forget", "()V"⟩, 12) := ⟨⟨by decide +kernel, by decide +kernel⟩, List.mem_of_getElem? (i := 46) (by decide +kernel), List.mem_of_getElem? (i := 318) (by decide +kernel), List.mem_of_getElem? (i := 319) (by decide +kernel)⟩
theorem lw_p4 : lw_okq (⟨"FormatDesk$Directive", "readFlags", "(LFormatDesk$Format;)V"⟩, 12) := ⟨⟨by decide +kernel, by decide +kernel⟩, List.mem_of_getElem? (i := 46) (by decide +kernel), List.mem_of_getElem? (i := 322) (by decide +kernel), List.mem_of_getElem? (i := 323) (by decide +kernel)⟩
theorem lw_p5 : lw_okq (⟨"FormatDesk$Directive", "readWidth", "(LFormatDesk$Format;)Z"⟩, 12) := ⟨⟨by decide +kernel, by decide +kernel⟩, List.mem_of_getElem? (i := 46) (by decide +kernel), List.mem_of_getElem? (i := 327) (by decide +kernel), List.mem_of_getElem? (i := 328) (by decide +kernel)⟩
theorem lw_p6 : lw_okq (⟨"FormatDesk$Directive", "readIf", "(LFormatDesk$Format;I)Z"⟩, 12) := ⟨⟨by decide +kernel, by decide +kernel⟩, List.mem_of_getElem? (i := 46) (by decide +kernel), List.mem_of_getElem? (i := 331) (by decide +kernel), List.mem_of_getElem? (i := 332) (by decide +kernel)⟩
theorem lw_p7 : lw_okq (⟨"FormatDesk$Directive", "readDigits", "(LFormatDesk$Format;)I"⟩, 12) := ⟨⟨by decide +kernel, by decide +kernel⟩, List.mem_of_getElem? (i := 46) (by decide +kernel), List.mem_of_getElem? (i := 335) (by decide +kernel), List.mem_of_getElem? (i := 336) (by decide +kernel)⟩
theorem lw_p8 : lw_okq (⟨"FormatDesk$Directive", "readPrecision", "(LFormatDesk$Format;)Z"⟩, 12) := ⟨⟨by decide +kernel, by decide +kernel⟩, List.mem_of_getElem? (i := 46) (by decide +kernel), List.mem_of_getElem? (i := 342) (by decide +kernel), List.mem_of_getElem? (i := 343) (by decide +kernel)⟩
theorem lw_p9 : lw_okq (⟨"FormatDesk$Directive", "readKind", "(LFormatDesk$Format;)Z"⟩, 12) := ⟨⟨by decide +kernel, by decide +kernel⟩, List.mem_of_getElem? (i := 46) (by decide +kernel), List.mem_of_getElem? (i := 346) (by decide +kernel), List.mem_of_getElem? (i := 347) (by decide +kernel)⟩
theorem lw_p10 : lw_okq (⟨"FormatDesk", "putOutAll", "()Z"⟩, 10) := ⟨⟨by decide +kernel, by decide +kernel⟩, List.mem_of_getElem? (i := 22) (by decide +kernel), List.mem_of_getElem? (i := 453) (by decide +kernel), List.mem_of_getElem? (i := 454) (by decide +kernel)⟩
theorem lw_p11 : lw_okq (⟨"FormatDesk", "takeStars", "()V"⟩, 10) := ⟨⟨by decide +kernel, by decide +kernel⟩, List.mem_of_getElem? (i := 22) (by decide +kernel), List.mem_of_getElem? (i := 457) (by decide +kernel), List.mem_of_getElem? (i := 458) (by decide +kernel)⟩
theorem lw_p12 : lw_okq (⟨"FormatDesk", "takeForStar", "()I"⟩, 10) := ⟨⟨by decide +kernel, by decide +kernel⟩, List.mem_of_getElem? (i := 22) (by decide +kernel), List.mem_of_getElem? (i := 461) (by decide +kernel), List.mem_of_getElem? (i := 462) (by decide +kernel)⟩
theorem lw_p13 : lw_okq (⟨"FormatDesk", "take", "()J"⟩, 10) := ⟨⟨by decide +kernel, by decide +kernel⟩, List.mem_of_getElem? (i := 22) (by decide +kernel), List.mem_of_getElem? (i := 467) (by decide +kernel), List.mem_of_getElem? (i := 468) (by decide +kernel)⟩
theorem lw_p14 : lw_okq (⟨"FormatDesk$Writer", "writeLetter", "(J)V"⟩, 2) := ⟨⟨by decide +kernel, by decide +kernel⟩, List.mem_of_getElem? (i := 103) (by decide +kernel), List.mem_of_getElem? (i := 497) (by decide +kernel), List.mem_of_getElem? (i := 498) (by decide +kernel)⟩
theorem lw_p15 : lw_okq (⟨"FormatDesk$Writer", "writeSigned", "(JLFormatDesk$Directive;)V"⟩, 2) := ⟨⟨by decide +kernel, by decide +kernel⟩, List.mem_of_getElem? (i := 103) (by decide +kernel), List.mem_of_getElem? (i := 503) (by decide +kernel), List.mem_of_getElem? (i := 504) (by decide +kernel)⟩
def lw_privs_1 : List (MethodName × Nat) := [(⟨"java/lang/Throwable", "fillInStackTrace", "(I)Ljava/lang/Throwable;"⟩, 6), (⟨"FormatDesk", "forgetLatestRun", "()V"⟩, 10), (⟨"FormatDesk", "placeOfWrong", "()I"⟩, 10), (⟨"FormatDesk$Directive", "forget", "()V"⟩, 12), (⟨"FormatDesk$Directive", "readFlags", "(LFormatDesk$Format;)V"⟩, 12), (⟨"FormatDesk$Directive", "readWidth", "(LFormatDesk$Format;)Z"⟩, 12), (⟨"FormatDesk$Directive", "readIf", "(LFormatDesk$Format;I)Z"⟩, 12), (⟨"FormatDesk$Directive", "readDigits", "(LFormatDesk$Format;)I"⟩, 12), (⟨"FormatDesk$Directive", "readPrecision", "(LFormatDesk$Format;)Z"⟩, 12), (⟨"FormatDesk$Directive", "readKind", "(LFormatDesk$Format;)Z"⟩, 12), (⟨"FormatDesk", "putOutAll", "()Z"⟩, 10), (⟨"FormatDesk", "takeStars", "()V"⟩, 10), (⟨"FormatDesk", "takeForStar", "()I"⟩, 10), (⟨"FormatDesk", "take", "()J"⟩, 10), (⟨"FormatDesk$Writer", "writeLetter", "(J)V"⟩, 2), (⟨"FormatDesk$Writer", "writeSigned", "(JLFormatDesk$Directive;)V"⟩, 2)]
theorem lw_r1 : ∀ q ∈ lw_privs_1, lw_okq q := List.forall_mem_cons.mpr ⟨lw_p0, List.forall_mem_cons.mpr ⟨lw_p1, List.forall_mem_cons.mpr ⟨lw_p2, List.forall_mem_cons.mpr ⟨lw_p3, List.forall_mem_cons.mpr ⟨lw_p4, List.forall_mem_cons.mpr ⟨lw_p5, List.forall_mem_cons.mpr ⟨lw_p6, List.forall_mem_cons.mpr ⟨lw_p7, List.forall_mem_cons.mpr ⟨lw_p8, List.forall_mem_cons.mpr ⟨lw_p9, List.forall_mem_cons.mpr ⟨lw_p10, List.forall_mem_cons.mpr ⟨lw_p11, List.forall_mem_cons.mpr ⟨lw_p12, List.forall_mem_cons.mpr ⟨lw_p13, List.forall_mem_cons.mpr ⟨lw_p14, List.forall_mem_cons.mpr ⟨lw_p15, fun _ h => absurd h List.not_mem_nil⟩⟩⟩⟩⟩⟩⟩⟩⟩⟩⟩⟩⟩⟩⟩⟩
theorem lw_p16 : lw_okq (⟨"FormatDesk$Writer", "writeDigits", "(JILFormatDesk$Directive;)V"⟩, 2) := ⟨⟨by decide +kernel, by decide +kernel⟩, List.mem_of_getElem? (i := 103) (by decide +kernel), List.mem_of_getElem? (i := 512) (by decide +kernel), List.mem_of_getElem? (i := 513) (by decide +kernel)⟩
theorem lw_p17 : lw_okq (⟨"FormatDesk$Writer", "writeUnsigned", "(JILFormatDesk$Directive;)V"⟩, 2) := ⟨⟨by decide +kernel, by decide +kernel⟩, List.mem_of_getElem? (i := 103) (by decide +kernel), List.mem_of_getElem? (i := 553) (by decide +kernel), List.mem_of_getElem? (i := 554) (by decide +kernel)⟩
theorem lw_p18 : lw_okq (⟨"FormatDesk$Writer", "writeFloating", "(JLFormatDesk$Directive;)V"⟩, 2) := ⟨⟨by decide +kernel, by decide +kernel⟩, List.mem_of_getElem? (i := 103) (by decide +kernel), List.mem_of_getElem? (i := 563) (by decide +kernel), List.mem_of_getElem? (i := 564) (by decide +kernel)⟩
theorem lw_p19 : lw_okq (⟨"FormatDesk$Writer", "writeHexadecimal", "(JILFormatDesk$Directive;)V"⟩, 2) := ⟨⟨by decide +kernel, by decide +kernel⟩, List.mem_of_getElem? (i := 103) (by decide +kernel), List.mem_of_getElem? (i := 571) (by decide +kernel), List.mem_of_getElem? (i := 572) (by decide +kernel)⟩
theorem lw_p20 : lw_okq (⟨"FormatDesk$Writer", "putPoint", "(IZ)V"⟩, 2) := ⟨⟨by decide +kernel, by decide +kernel⟩, List.mem_of_getElem? (i := 103) (by decide +kernel), List.mem_of_getElem? (i := 586) (by decide +kernel), List.mem_of_getElem? (i := 587) (by decide +kernel)⟩
theorem lw_p21 : lw_okq (⟨"FormatDesk$Writer", "putExponent", "(IZ)V"⟩, 2) := ⟨⟨by decide +kernel, by decide +kernel⟩, List.mem_of_getElem? (i := 103) (by decide +kernel), List.mem_of_getElem? (i := 590) (by decide +kernel), List.mem_of_getElem? (i := 591) (by decide +kernel)⟩
theorem lw_p22 : lw_okq (⟨"FormatDesk$Decimal", "becomeZero", "()V"⟩, 5) := ⟨⟨by decide +kernel, by decide +kernel⟩, List.mem_of_getElem? (i := 127) (by decide +kernel), List.mem_of_getElem? (i := 598) (by decide +kernel), List.mem_of_getElem? (i := 599) (by decide +kernel)⟩
theorem lw_p23 : lw_okq (⟨"FormatDesk$Decimal", "multiply", "(J)V"⟩, 5) := ⟨⟨by decide +kernel, by decide +kernel⟩, List.mem_of_getElem? (i := 127) (by decide +kernel), List.mem_of_getElem? (i := 604) (by decide +kernel), List.mem_of_getElem? (i := 605) (by decide +kernel)⟩
theorem lw_p24 : lw_okq (⟨"FormatDesk$Decimal", "spell", "()V"⟩, 5) := ⟨⟨by decide +kernel, by decide +kernel⟩, List.mem_of_getElem? (i := 127) (by decide +kernel), List.mem_of_getElem? (i := 610) (by decide +kernel), List.mem_of_getElem? (i := 611) (by decide +kernel)⟩
theorem lw_p25 : lw_okq (⟨"FormatDesk$Writer", "writeDecimal", "(LFormatDesk$Directive;)V"⟩, 2) := ⟨⟨by decide +kernel, by decide +kernel⟩, List.mem_of_getElem? (i := 103) (by decide +kernel), List.mem_of_getElem? (i := 615) (by decide +kernel), List.mem_of_getElem? (i := 616) (by decide +kernel)⟩
theorem lw_p26 : lw_okq (⟨"FormatDesk$Decimal", "addOneAtTheEnd", "()V"⟩, 5) := ⟨⟨by decide +kernel, by decide +kernel⟩, List.mem_of_getElem? (i := 127) (by decide +kernel), List.mem_of_getElem? (i := 634) (by decide +kernel), List.mem_of_getElem? (i := 635) (by decide +kernel)⟩
theorem lw_p27 : lw_okq (⟨"FormatDesk$Writer", "putDigits", "(IIZ)V"⟩, 2) := ⟨⟨by decide +kernel, by decide +kernel⟩, List.mem_of_getElem? (i := 103) (by decide +kernel), List.mem_of_getElem? (i := 640) (by decide +kernel), List.mem_of_getElem? (i := 641) (by decide +kernel)⟩
theorem lw_p28 : lw_okq (⟨"FormatDesk", "putOutPiece", "(LFormatDesk$Piece;)Z"⟩, 10) := ⟨⟨by decide +kernel, by decide +kernel⟩, List.mem_of_getElem? (i := 22) (by decide +kernel), List.mem_of_getElem? (i := 649) (by decide +kernel), List.mem_of_getElem? (i := 650) (by decide +kernel)⟩
theorem lw_p29 : lw_okq (⟨"FormatDesk", "putOut", "(I)Z"⟩, 10) := ⟨⟨by decide +kernel, by decide +kernel⟩, List.mem_of_getElem? (i := 22) (by decide +kernel), List.mem_of_getElem? (i := 657) (by decide +kernel), List.mem_of_getElem? (i := 658) (by decide +kernel)⟩
theorem lw_p30 : lw_okq (⟨"FormatDeskModel", "fails", "(ZI)Z"⟩, 30) := ⟨⟨by decide +kernel, by decide +kernel⟩, List.mem_of_getElem? (i := 690) (by decide +kernel), List.mem_of_getElem? (i := 797) (by decide +kernel), List.mem_of_getElem? (i := 798) (by decide +kernel)⟩
theorem lw_p31 : lw_okq (⟨"FormatDeskModel", "bad", "(I)Z"⟩, 30) := ⟨⟨by decide +kernel, by decide +kernel⟩, List.mem_of_getElem? (i := 690) (by decide +kernel), List.mem_of_getElem? (i := 816) (by decide +kernel), List.mem_of_getElem? (i := 817) (by decide +kernel)⟩
def lw_privs_2 : List (MethodName × Nat) := [(⟨"FormatDesk$Writer", "writeDigits", "(JILFormatDesk$Directive;)V"⟩, 2), (⟨"FormatDesk$Writer", "writeUnsigned", "(JILFormatDesk$Directive;)V"⟩, 2), (⟨"FormatDesk$Writer", "writeFloating", "(JLFormatDesk$Directive;)V"⟩, 2), (⟨"FormatDesk$Writer", "writeHexadecimal", "(JILFormatDesk$Directive;)V"⟩, 2), (⟨"FormatDesk$Writer", "putPoint", "(IZ)V"⟩, 2), (⟨"FormatDesk$Writer", "putExponent", "(IZ)V"⟩, 2), (⟨"FormatDesk$Decimal", "becomeZero", "()V"⟩, 5), (⟨"FormatDesk$Decimal", "multiply", "(J)V"⟩, 5), (⟨"FormatDesk$Decimal", "spell", "()V"⟩, 5), (⟨"FormatDesk$Writer", "writeDecimal", "(LFormatDesk$Directive;)V"⟩, 2), (⟨"FormatDesk$Decimal", "addOneAtTheEnd", "()V"⟩, 5), (⟨"FormatDesk$Writer", "putDigits", "(IIZ)V"⟩, 2), (⟨"FormatDesk", "putOutPiece", "(LFormatDesk$Piece;)Z"⟩, 10), (⟨"FormatDesk", "putOut", "(I)Z"⟩, 10), (⟨"FormatDeskModel", "fails", "(ZI)Z"⟩, 30), (⟨"FormatDeskModel", "bad", "(I)Z"⟩, 30)]
theorem lw_r2 : ∀ q ∈ lw_privs_2, lw_okq q := List.forall_mem_cons.mpr ⟨lw_p16, List.forall_mem_cons.mpr ⟨lw_p17, List.forall_mem_cons.mpr ⟨lw_p18, List.forall_mem_cons.mpr ⟨lw_p19, List.forall_mem_cons.mpr ⟨lw_p20, List.forall_mem_cons.mpr ⟨lw_p21, List.forall_mem_cons.mpr ⟨lw_p22, List.forall_mem_cons.mpr ⟨lw_p23, List.forall_mem_cons.mpr ⟨lw_p24, List.forall_mem_cons.mpr ⟨lw_p25, List.forall_mem_cons.mpr ⟨lw_p26, List.forall_mem_cons.mpr ⟨lw_p27, List.forall_mem_cons.mpr ⟨lw_p28, List.forall_mem_cons.mpr ⟨lw_p29, List.forall_mem_cons.mpr ⟨lw_p30, List.forall_mem_cons.mpr ⟨lw_p31, fun _ h => absurd h List.not_mem_nil⟩⟩⟩⟩⟩⟩⟩⟩⟩⟩⟩⟩⟩⟩⟩⟩
theorem lw_p32 : lw_okq (⟨"FormatDeskModel", "directive", "()Z"⟩, 30) := ⟨⟨by decide +kernel, by decide +kernel⟩, List.mem_of_getElem? (i := 690) (by decide +kernel), List.mem_of_getElem? (i := 820) (by decide +kernel), List.mem_of_getElem? (i := 821) (by decide +kernel)⟩
theorem lw_p33 : lw_okq (⟨"FormatDeskModel", "c", "(I)I"⟩, 30) := ⟨⟨by decide +kernel, by decide +kernel⟩, List.mem_of_getElem? (i := 690) (by decide +kernel), List.mem_of_getElem? (i := 824) (by decide +kernel), List.mem_of_getElem? (i := 825) (by decide +kernel)⟩
theorem lw_p34 : lw_okq (⟨"FormatDeskModel", "number", "()I"⟩, 30) := ⟨⟨by decide +kernel, by decide +kernel⟩, List.mem_of_getElem? (i := 690) (by decide +kernel), List.mem_of_getElem? (i := 828) (by decide +kernel), List.mem_of_getElem? (i := 829) (by decide +kernel)⟩
theorem lw_p35 : lw_okq (⟨"FormatDeskModel", "give", "(I)Z"⟩, 30) := ⟨⟨by decide +kernel, by decide +kernel⟩, List.mem_of_getElem? (i := 690) (by decide +kernel), List.mem_of_getElem? (i := 835) (by decide +kernel), List.mem_of_getElem? (i := 836) (by decide +kernel)⟩
theorem lw_p36 : lw_okq (⟨"FormatDeskModel", "next", "()J"⟩, 30) := ⟨⟨by decide +kernel, by decide +kernel⟩, List.mem_of_getElem? (i := 690) (by decide +kernel), List.mem_of_getElem? (i := 839) (by decide +kernel), List.mem_of_getElem? (i := 840) (by decide +kernel)⟩
theorem lw_p37 : lw_okq (⟨"FormatDeskModel", "piece", "(I)V"⟩, 30) := ⟨⟨by decide +kernel, by decide +kernel⟩, List.mem_of_getElem? (i := 690) (by decide +kernel), List.mem_of_getElem? (i := 849) (by decide +kernel), List.mem_of_getElem? (i := 850) (by decide +kernel)⟩
theorem lw_p38 : lw_okq (⟨"FormatDeskModel", "add", "(I)V"⟩, 30) := ⟨⟨by decide +kernel, by decide +kernel⟩, List.mem_of_getElem? (i := 690) (by decide +kernel), List.mem_of_getElem? (i := 853) (by decide +kernel), List.mem_of_getElem? (i := 854) (by decide +kernel)⟩
theorem lw_p39 : lw_okq (⟨"FormatDeskModel", "whole", "(IJ)V"⟩, 30) := ⟨⟨by decide +kernel, by decide +kernel⟩, List.mem_of_getElem? (i := 690) (by decide +kernel), List.mem_of_getElem? (i := 857) (by decide +kernel), List.mem_of_getElem? (i := 858) (by decide +kernel)⟩
theorem lw_p40 : lw_okq (⟨"FormatDeskModel", "sign", "(Z)V"⟩, 30) := ⟨⟨by decide +kernel, by decide +kernel⟩, List.mem_of_getElem? (i := 690) (by decide +kernel), List.mem_of_getElem? (i := 868) (by decide +kernel), List.mem_of_getElem? (i := 869) (by decide +kernel)⟩
theorem lw_p41 : lw_okq (⟨"FormatDeskModel", "real", "(IJ)V"⟩, 30) := ⟨⟨by decide +kernel, by decide +kernel⟩, List.mem_of_getElem? (i := 690) (by decide +kernel), List.mem_of_getElem? (i := 875) (by decide +kernel), List.mem_of_getElem? (i := 876) (by decide +kernel)⟩
theorem lw_p42 : lw_okq (⟨"FormatDeskModel", "hexadecimal", "(JIZ)V"⟩, 30) := ⟨⟨by decide +kernel, by decide +kernel⟩, List.mem_of_getElem? (i := 690) (by decide +kernel), List.mem_of_getElem? (i := 884) (by decide +kernel), List.mem_of_getElem? (i := 885) (by decide +kernel)⟩
theorem lw_p43 : lw_okq (⟨"FormatDeskModel", "decimal", "(JI)V"⟩, 30) := ⟨⟨by decide +kernel, by decide +kernel⟩, List.mem_of_getElem? (i := 690) (by decide +kernel), List.mem_of_getElem? (i := 891) (by decide +kernel), List.mem_of_getElem? (i := 892) (by decide +kernel)⟩
theorem lw_p44 : lw_okq (⟨"FormatDeskModel", "fixed", "(I)V"⟩, 30) := ⟨⟨by decide +kernel, by decide +kernel⟩, List.mem_of_getElem? (i := 690) (by decide +kernel), List.mem_of_getElem? (i := 896) (by decide +kernel), List.mem_of_getElem? (i := 897) (by decide +kernel)⟩
theorem lw_p45 : lw_okq (⟨"FormatDeskModel", "cut", "(I)Z"⟩, 30) := ⟨⟨by decide +kernel, by decide +kernel⟩, List.mem_of_getElem? (i := 690) (by decide +kernel), List.mem_of_getElem? (i := 900) (by decide +kernel), List.mem_of_getElem? (i := 901) (by decide +kernel)⟩
theorem lw_p46 : lw_okq (⟨"FormatDeskModel", "scientific", "(IZ)V"⟩, 30) := ⟨⟨by decide +kernel, by decide +kernel⟩, List.mem_of_getElem? (i := 690) (by decide +kernel), List.mem_of_getElem? (i := 904) (by decide +kernel), List.mem_of_getElem? (i := 905) (by decide +kernel)⟩
theorem lw_p47 : lw_okq (⟨"FormatDeskModel", "exponent", "(I)I"⟩, 30) := ⟨⟨by decide +kernel, by decide +kernel⟩, List.mem_of_getElem? (i := 690) (by decide +kernel), List.mem_of_getElem? (i := 908) (by decide +kernel), List.mem_of_getElem? (i := 909) (by decide +kernel)⟩
def lw_privs_3 : List (MethodName × Nat) := [(⟨"FormatDeskModel", "directive", "()Z"⟩, 30), (⟨"FormatDeskModel", "c", "(I)I"⟩, 30), (⟨"FormatDeskModel", "number", "()I"⟩, 30), (⟨"FormatDeskModel", "give", "(I)Z"⟩, 30), (⟨"FormatDeskModel", "next", "()J"⟩, 30), (⟨"FormatDeskModel", "piece", "(I)V"⟩, 30), (⟨"FormatDeskModel", "add", "(I)V"⟩, 30), (⟨"FormatDeskModel", "whole", "(IJ)V"⟩, 30), (⟨"FormatDeskModel", "sign", "(Z)V"⟩, 30), (⟨"FormatDeskModel", "real", "(IJ)V"⟩, 30), (⟨"FormatDeskModel", "hexadecimal", "(JIZ)V"⟩, 30), (⟨"FormatDeskModel", "decimal", "(JI)V"⟩, 30), (⟨"FormatDeskModel", "fixed", "(I)V"⟩, 30), (⟨"FormatDeskModel", "cut", "(I)Z"⟩, 30), (⟨"FormatDeskModel", "scientific", "(IZ)V"⟩, 30), (⟨"FormatDeskModel", "exponent", "(I)I"⟩, 30)]
theorem lw_r3 : ∀ q ∈ lw_privs_3, lw_okq q := List.forall_mem_cons.mpr ⟨lw_p32, List.forall_mem_cons.mpr ⟨lw_p33, List.forall_mem_cons.mpr ⟨lw_p34, List.forall_mem_cons.mpr ⟨lw_p35, List.forall_mem_cons.mpr ⟨lw_p36, List.forall_mem_cons.mpr ⟨lw_p37, List.forall_mem_cons.mpr ⟨lw_p38, List.forall_mem_cons.mpr ⟨lw_p39, List.forall_mem_cons.mpr ⟨lw_p40, List.forall_mem_cons.mpr ⟨lw_p41, List.forall_mem_cons.mpr ⟨lw_p42, List.forall_mem_cons.mpr ⟨lw_p43, List.forall_mem_cons.mpr ⟨lw_p44, List.forall_mem_cons.mpr ⟨lw_p45, List.forall_mem_cons.mpr ⟨lw_p46, List.forall_mem_cons.mpr ⟨lw_p47, fun _ h => absurd h List.not_mem_nil⟩⟩⟩⟩⟩⟩⟩⟩⟩⟩⟩⟩⟩⟩⟩⟩
theorem lw_p48 : lw_okq (⟨"FormatDeskModel", "general", "(IZ)V"⟩, 30) := ⟨⟨by decide +kernel, by decide +kernel⟩, List.mem_of_getElem? (i := 690) (by decide +kernel), List.mem_of_getElem? (i := 912) (by decide +kernel), List.mem_of_getElem? (i := 913) (by decide +kernel)⟩
theorem lw_p49 : lw_okq (⟨"FormatDeskModel", "pad", "()Z"⟩, 30) := ⟨⟨by decide +kernel, by decide +kernel⟩, List.mem_of_getElem? (i := 690) (by decide +kernel), List.mem_of_getElem? (i := 916) (by decide +kernel), List.mem_of_getElem? (i := 917) (by decide +kernel)⟩
def lw_privs_4 : List (MethodName × Nat) := [(⟨"FormatDeskModel", "general", "(IZ)V"⟩, 30), (⟨"FormatDeskModel", "pad", "()Z"⟩, 30)]
theorem lw_r4 : ∀ q ∈ lw_privs_4, lw_okq q := List.forall_mem_cons.mpr ⟨lw_p48, List.forall_mem_cons.mpr ⟨lw_p49, fun _ h => absurd h List.not_mem_nil⟩⟩
def lw_privs : List (MethodName × Nat) := lw_privs_1 ++ (lw_privs_2 ++ (lw_privs_3 ++ (lw_privs_4)))
def lw_tbl : List Cond := k2_sels lw_privs ++ tables_1
theorem lw_privs_ok : ∀ q ∈ lw_privs, lw_okq q := by
  show ∀ q ∈ lw_privs_1 ++ (lw_privs_2 ++ (lw_privs_3 ++ (lw_privs_4))), lw_okq q
  exact List.forall_mem_append.mpr ⟨lw_r1, List.forall_mem_append.mpr ⟨lw_r2, List.forall_mem_append.mpr ⟨lw_r3, lw_r4⟩⟩⟩
end
section
/-! MY NAMES: classes, fields, the words (all good ones of the tables), the nest's words -/
def ax_big : List Cond := lw_tbl.filter goodWord
theorem ax_in (i : Nat) {w : Cond} (h : lw_tbl[i]? = some w) (g : goodWord w = true) : w ∈ ax_big := List.mem_filter.mpr ⟨List.mem_of_getElem? h, g⟩
theorem ax_good : ∀ w ∈ ax_big, goodWord w = true := fun _ h => (List.mem_filter.mp h).2
theorem ax_big_tbl : ∀ w ∈ ax_big, w ∈ lw_tbl := fun _ h => (List.mem_filter.mp h).1
def ax_isN : Cond → Bool
  | .fieldLinkNest _ _ _ _ _ _ => true
  | .methodLinkNest _ _ _ _ => true
  | _ => false
def ax_nest : List Cond := lw_tbl.filter ax_isN
theorem ax_inN (i : Nat) {w : Cond} (h : lw_tbl[i]? = some w) (g : ax_isN w = true) : w ∈ ax_nest := List.mem_filter.mpr ⟨List.mem_of_getElem? h, g⟩
theorem ax_nest_warm {s U : State} (hW : s.WarmedH U.vm) (h : ∀ w ∈ ax_nest, va_Nw w s) : ∀ w ∈ ax_nest, va_Nw w U := by
  intro w hw
  have h1 := h w hw
  have h2 := (List.mem_filter.mp hw).2
  cases w with
  | fieldLinkNest a i b n d k => exact va_Nw.warmF hW h1
  | methodLinkNest a i x k => exact va_Nw.warmM hW h1
  | _ => simp [ax_isN] at h2
theorem ax_nest_same {u U : State} (hv : u.vm = U.vm) (h : ∀ w ∈ ax_nest, va_Nw w u) : ∀ w ∈ ax_nest, va_Nw w U := by
  intro w hw
  have h1 := h w hw
  have h2 := (List.mem_filter.mp hw).2
  cases w with
  | fieldLinkNest a i b n d k => exact va_Nw.same rfl hv h1
  | methodLinkNest a i x k => exact va_Nw.same rfl hv h1
  | _ => simp [ax_isN] at h2
def R_De : String := "FormatDesk$Decimal"
def T_De : u_T := fun k => match k with
  | 0 => ("FormatDesk$Decimal", "limbs", "[J", true)
  | 1 => ("FormatDesk$Decimal", "limbCount", "I", false)
  | 2 => ("FormatDesk$Decimal", "digits", "[B", true)
  | 3 => ("FormatDesk$Decimal", "digitCount", "I", false)
  | _ => ("FormatDesk$Decimal", "point", "I", false)
def t_De : Nat → FieldType := fun k => match k with
  | 0 => .array .long
  | 1 => .int
  | 2 => .array .byte
  | 3 => .int
  | _ => .int
theorem n_De : ∀ a, a < 5 → ∀ b, b < 5 → a ≠ b → (T_De a).2.1 ≠ (T_De b).2.1 := by decide +kernel
theorem t_De_ok : ∀ k, k < 5 → parseFieldDescriptor (T_De k).2.2.1 = some (t_De k) := by decide +kernel
theorem i_De : ∀ w ∈ u_ws R_De T_De 5, w ∈ ax_big := by decide +kernel
def R_Di : String := "FormatDesk$Directive"
def T_Di : u_T := fun k => match k with
  | 0 => ("FormatDesk$Directive", "left", "Z", false)
  | 1 => ("FormatDesk$Directive", "plus", "Z", false)
  | 2 => ("FormatDesk$Directive", "blank", "Z", false)
  | 3 => ("FormatDesk$Directive", "hash", "Z", false)
  | 4 => ("FormatDesk$Directive", "zero", "Z", false)
  | 5 => ("FormatDesk$Directive", "width", "I", false)
  | 6 => ("FormatDesk$Directive", "widthIsTaken", "Z", false)
  | 7 => ("FormatDesk$Directive", "precision", "I", false)
  | 8 => ("FormatDesk$Directive", "precisionIsTaken", "Z", false)
  | 9 => ("FormatDesk$Directive", "kind", "I", false)
  | 10 => ("FormatDesk$Directive", "great", "Z", false)
  | _ => ("FormatDesk$Directive", "at", "I", false)
def t_Di : Nat → FieldType := fun k => match k with
  | 0 => .boolean
  | 1 => .boolean
  | 2 => .boolean
  | 3 => .boolean
  | 4 => .boolean
  | 5 => .int
  | 6 => .boolean
  | 7 => .int
  | 8 => .boolean
  | 9 => .int
  | 10 => .boolean
  | _ => .int
theorem n_Di : ∀ a, a < 12 → ∀ b, b < 12 → a ≠ b → (T_Di a).2.1 ≠ (T_Di b).2.1 := by decide +kernel
theorem t_Di_ok : ∀ k, k < 12 → parseFieldDescriptor (T_Di k).2.2.1 = some (t_Di k) := by decide +kernel
theorem i_Di : ∀ w ∈ u_ws R_Di T_Di 12, w ∈ ax_big := by decide +kernel
def R_Fo : String := "FormatDesk$Format"
def T_Fo : u_T := fun k => match k with
  | 0 => ("FormatDesk$Format", "row", "[B", true)
  | _ => ("FormatDesk$Format", "size", "I", false)
def t_Fo : Nat → FieldType := fun k => match k with
  | 0 => .array .byte
  | _ => .int
theorem n_Fo : ∀ a, a < 2 → ∀ b, b < 2 → a ≠ b → (T_Fo a).2.1 ≠ (T_Fo b).2.1 := by decide +kernel
theorem t_Fo_ok : ∀ k, k < 2 → parseFieldDescriptor (T_Fo k).2.2.1 = some (t_Fo k) := by decide +kernel
theorem i_Fo : ∀ w ∈ u_ws R_Fo T_Fo 2, w ∈ ax_big := by decide +kernel
def R_Pi : String := "FormatDesk$Piece"
def T_Pi : u_T := fun k => match k with
  | 0 => ("FormatDesk$Piece", "row", "[B", true)
  | 1 => ("FormatDesk$Piece", "size", "I", false)
  | _ => ("FormatDesk$Piece", "zeroPlace", "I", false)
def t_Pi : Nat → FieldType := fun k => match k with
  | 0 => .array .byte
  | 1 => .int
  | _ => .int
theorem n_Pi : ∀ a, a < 3 → ∀ b, b < 3 → a ≠ b → (T_Pi a).2.1 ≠ (T_Pi b).2.1 := by decide +kernel
theorem t_Pi_ok : ∀ k, k < 3 → parseFieldDescriptor (T_Pi k).2.2.1 = some (t_Pi k) := by decide +kernel
theorem i_Pi : ∀ w ∈ u_ws R_Pi T_Pi 3, w ∈ ax_big := by decide +kernel
def R_Wr : String := "FormatDesk$Writer"
def T_Wr : u_T := fun k => match k with
  | 0 => ("FormatDesk$Writer", "piece", "LFormatDesk$Piece;", true)
  | _ => ("FormatDesk$Writer", "decimal", "LFormatDesk$Decimal;", true)
def t_Wr : Nat → FieldType := fun k => match k with
  | 0 => .object "FormatDesk$Piece"
  | _ => .object "FormatDesk$Decimal"
theorem n_Wr : ∀ a, a < 2 → ∀ b, b < 2 → a ≠ b → (T_Wr a).2.1 ≠ (T_Wr b).2.1 := by decide +kernel
theorem t_Wr_ok : ∀ k, k < 2 → parseFieldDescriptor (T_Wr k).2.2.1 = some (t_Wr k) := by decide +kernel
theorem i_Wr : ∀ w ∈ u_ws R_Wr T_Wr 2, w ∈ ax_big := by decide +kernel
def R_Fd : String := "FormatDesk"
def T_Fd : u_T := fun k => match k with
  | 0 => ("FormatDesk", "format", "LFormatDesk$Format;", true)
  | 1 => ("FormatDesk", "arguments", "[J", true)
  | 2 => ("FormatDesk", "argumentCount", "I", false)
  | 3 => ("FormatDesk", "out", "[B", true)
  | 4 => ("FormatDesk", "outCount", "I", false)
  | 5 => ("FormatDesk", "wrongAt", "I", false)
  | 6 => ("FormatDesk", "taken", "I", false)
  | 7 => ("FormatDesk", "directivesDone", "I", false)
  | 8 => ("FormatDesk", "directive", "LFormatDesk$Directive;", true)
  | _ => ("FormatDesk", "writer", "LFormatDesk$Writer;", true)
def t_Fd : Nat → FieldType := fun k => match k with
  | 0 => .object "FormatDesk$Format"
  | 1 => .array .long
  | 2 => .int
  | 3 => .array .byte
  | 4 => .int
  | 5 => .int
  | 6 => .int
  | 7 => .int
  | 8 => .object "FormatDesk$Directive"
  | _ => .object "FormatDesk$Writer"
theorem n_Fd : ∀ a, a < 10 → ∀ b, b < 10 → a ≠ b → (T_Fd a).2.1 ≠ (T_Fd b).2.1 := by decide +kernel
theorem t_Fd_ok : ∀ k, k < 10 → parseFieldDescriptor (T_Fd k).2.2.1 = some (t_Fd k) := by decide +kernel
theorem i_Fd : ∀ w ∈ u_ws R_Fd T_Fd 10, w ∈ ax_big := by decide +kernel
def R_Mo : String := "FormatDeskModel"
def T_Mo : u_T := fun k => match k with
  | 0 => ("FormatDeskModel", "err", "I", false)
  | 1 => ("FormatDeskModel", "letters", "I", false)
  | 2 => ("FormatDeskModel", "many", "I", false)
  | 3 => ("FormatDeskModel", "out", "I", false)
  | 4 => ("FormatDeskModel", "taken", "I", false)
  | 5 => ("FormatDeskModel", "did", "I", false)
  | 6 => ("FormatDeskModel", "wrong", "I", false)
  | 7 => ("FormatDeskModel", "format", "[I", true)
  | 8 => ("FormatDeskModel", "put", "[I", true)
  | 9 => ("FormatDeskModel", "argument", "[J", true)
  | 10 => ("FormatDeskModel", "at", "I", false)
  | 11 => ("FormatDeskModel", "width", "I", false)
  | 12 => ("FormatDeskModel", "precision", "I", false)
  | 13 => ("FormatDeskModel", "left", "Z", false)
  | 14 => ("FormatDeskModel", "plus", "Z", false)
  | 15 => ("FormatDeskModel", "blank", "Z", false)
  | 16 => ("FormatDeskModel", "hash", "Z", false)
  | 17 => ("FormatDeskModel", "zero", "Z", false)
  | 18 => ("FormatDeskModel", "widthTaken", "Z", false)
  | 19 => ("FormatDeskModel", "precisionTaken", "Z", false)
  | 20 => ("FormatDeskModel", "front", "[I", true)
  | 21 => ("FormatDeskModel", "body", "[I", true)
  | 22 => ("FormatDeskModel", "fronts", "I", false)
  | 23 => ("FormatDeskModel", "size", "I", false)
  | 24 => ("FormatDeskModel", "zeros", "Z", false)
  | 25 => ("FormatDeskModel", "row", "[I", true)
  | 26 => ("FormatDeskModel", "digits", "[I", true)
  | 27 => ("FormatDeskModel", "other", "[I", true)
  | 28 => ("FormatDeskModel", "count", "I", false)
  | _ => ("FormatDeskModel", "point", "I", false)
def t_Mo : Nat → FieldType := fun k => match k with
  | 0 => .int
  | 1 => .int
  | 2 => .int
  | 3 => .int
  | 4 => .int
  | 5 => .int
  | 6 => .int
  | 7 => .array .int
  | 8 => .array .int
  | 9 => .array .long
  | 10 => .int
  | 11 => .int
  | 12 => .int
  | 13 => .boolean
  | 14 => .boolean
  | 15 => .boolean
  | 16 => .boolean
  | 17 => .boolean
  | 18 => .boolean
  | 19 => .boolean
  | 20 => .array .int
  | 21 => .array .int
  | 22 => .int
  | 23 => .int
  | 24 => .boolean
  | 25 => .array .int
  | 26 => .array .int
  | 27 => .array .int
  | 28 => .int
  | _ => .int
theorem n_Mo : ∀ a, a < 30 → ∀ b, b < 30 → a ≠ b → (T_Mo a).2.1 ≠ (T_Mo b).2.1 := by decide +kernel
theorem t_Mo_ok : ∀ k, k < 30 → parseFieldDescriptor (T_Mo k).2.2.1 = some (t_Mo k) := by decide +kernel
theorem i_Mo : ∀ w ∈ u_ws R_Mo T_Mo 30, w ∈ ax_big := by decide +kernel
abbrev ax_cl : List vw_C := [(R_De, T_De, 5), (R_Di, T_Di, 12), (R_Fo, T_Fo, 2), (R_Pi, T_Pi, 3), (R_Wr, T_Wr, 2), (R_Fd, T_Fd, 10), (R_Mo, T_Mo, 30)]
def ax_ty (ci : Nat) : Nat → FieldType := match ci with
  | 0 => t_De
  | 1 => t_Di
  | 2 => t_Fo
  | 3 => t_Pi
  | 4 => t_Wr
  | 5 => t_Fd
  | _ => t_Mo
theorem ax_tyok {ci : Nat} {C : String} {T : u_T} {N : Nat} (hc : ax_cl[ci]? = some (C, T, N)) : ∀ k, k < N → parseFieldDescriptor (T k).2.2.1 = some (ax_ty ci k) := by
  match ci, hc with
  | 0, hc => cases hc; exact t_De_ok
  | 1, hc => cases hc; exact t_Di_ok
  | 2, hc => cases hc; exact t_Fo_ok
  | 3, hc => cases hc; exact t_Pi_ok
  | 4, hc => cases hc; exact t_Wr_ok
  | 5, hc => cases hc; exact t_Fd_ok
  | 6, hc => cases hc; exact t_Mo_ok
  | n + 7, hc => simp [ax_cl] at hc
theorem ax_names {ci : Nat} {C : String} {T : u_T} {N : Nat} (hc : ax_cl[ci]? = some (C, T, N)) : ∀ a, a < N → ∀ b, b < N → a ≠ b → (T a).2.1 ≠ (T b).2.1 := by
  match ci, hc with
  | 0, hc => cases hc; exact n_De
  | 1, hc => cases hc; exact n_Di
  | 2, hc => cases hc; exact n_Fo
  | 3, hc => cases hc; exact n_Pi
  | 4, hc => cases hc; exact n_Wr
  | 5, hc => cases hc; exact n_Fd
  | 6, hc => cases hc; exact n_Mo
  | n + 7, hc => simp [ax_cl] at hc
theorem ax_laysB {ci : Nat} {C : String} {T : u_T} {N : Nat} (hc : ax_cl[ci]? = some (C, T, N)) : ∀ w ∈ u_ws C T N, w ∈ ax_big := by
  match ci, hc with
  | 0, hc => cases hc; exact i_De
  | 1, hc => cases hc; exact i_Di
  | 2, hc => cases hc; exact i_Fo
  | 3, hc => cases hc; exact i_Pi
  | 4, hc => cases hc; exact i_Wr
  | 5, hc => cases hc; exact i_Fd
  | 6, hc => cases hc; exact i_Mo
  | n + 7, hc => simp [ax_cl] at hc
end
section
/-! the words by name: k_ own class, number of the pool's entry (links, constants); kc_ code, ki_ instanceMethod, ks_ selects, kt_ static, kk_ initialized -/
theorem kk_La : Cond.initialized "FormatDeskLaw" ∈ ax_big := ax_in 50 (by decide +kernel) (by decide +kernel)
theorem kk_Fd : Cond.initialized "FormatDesk" ∈ ax_big := ax_in 51 (by decide +kernel) (by decide +kernel)
theorem kk_Fo : Cond.initialized "FormatDesk$Format" ∈ ax_big := ax_in 52 (by decide +kernel) (by decide +kernel)
theorem kk_Di : Cond.initialized "FormatDesk$Directive" ∈ ax_big := ax_in 53 (by decide +kernel) (by decide +kernel)
theorem kk_Wr : Cond.initialized "FormatDesk$Writer" ∈ ax_big := ax_in 54 (by decide +kernel) (by decide +kernel)
theorem kk_Pi : Cond.initialized "FormatDesk$Piece" ∈ ax_big := ax_in 55 (by decide +kernel) (by decide +kernel)
theorem kk_De : Cond.initialized "FormatDesk$Decimal" ∈ ax_big := ax_in 56 (by decide +kernel) (by decide +kernel)
theorem kk_Mo : Cond.initialized "FormatDeskModel" ∈ ax_big := ax_in 57 (by decide +kernel) (by decide +kernel)
theorem kk_St : Cond.initialized "java/lang/String" ∈ ax_big := ax_in 62 (by decide +kernel) (by decide +kernel)
theorem kk_Sl : Cond.initialized "java/lang/StringLatin1" ∈ ax_big := ax_in 63 (by decide +kernel) (by decide +kernel)
theorem kk_Ma : Cond.initialized "java/lang/Math" ∈ ax_big := ax_in 64 (by decide +kernel) (by decide +kernel)
theorem kk_Su : Cond.initialized "java/lang/StringUTF16" ∈ ax_big := ax_in 65 (by decide +kernel) (by decide +kernel)
theorem kk_Pr : Cond.initialized "jdk/internal/util/Preconditions" ∈ ax_big := ax_in 66 (by decide +kernel) (by decide +kernel)
theorem kk_Ch : Cond.initialized "java/lang/Character" ∈ ax_big := ax_in 67 (by decide +kernel) (by decide +kernel)
theorem kk_Lo : Cond.initialized "java/lang/Long" ∈ ax_big := ax_in 70 (by decide +kernel) (by decide +kernel)
theorem k_La_8 : Cond.classLink "FormatDeskLaw" 8 "FormatDesk" ∈ ax_big := ax_in 71 (by decide +kernel) (by decide +kernel)
theorem k_La_34 : Cond.methodLink "FormatDeskLaw" 34 ⟨"FormatDesk", "<init>", "()V"⟩ ∈ ax_big := ax_in 73 (by decide +kernel) (by decide +kernel)
theorem k_Fd_1 : Cond.methodLink "FormatDesk" 1 ⟨"java/lang/Object", "<init>", "()V"⟩ ∈ ax_big := ax_in 76 (by decide +kernel) (by decide +kernel)
theorem k_Fd_7 : Cond.classLink "FormatDesk" 7 "FormatDesk$Format" ∈ ax_big := ax_in 79 (by decide +kernel) (by decide +kernel)
theorem k_Fd_9 : Cond.methodLinkNest "FormatDesk" 9 ⟨"FormatDesk$Format", "<init>", "()V"⟩ "FormatDesk" ∈ ax_nest := ax_inN 81 (by decide +kernel) (by decide +kernel)
theorem k_Fo_3 : Cond.methodLink "FormatDesk$Format" 3 ⟨"java/lang/Object", "<init>", "()V"⟩ ∈ ax_big := ax_in 84 (by decide +kernel) (by decide +kernel)
theorem k_Fo_9 : Cond.fieldLink "FormatDesk$Format" 9 "FormatDesk$Format" "row" "[B" ∈ ax_big := ax_in 85 (by decide +kernel) (by decide +kernel)
theorem k_Fo_15 : Cond.fieldLink "FormatDesk$Format" 15 "FormatDesk$Format" "size" "I" ∈ ax_big := ax_in 86 (by decide +kernel) (by decide +kernel)
theorem k_Fd_58 : Cond.fieldLinkNest "FormatDesk" 58 "FormatDesk$Format" "size" "I" "FormatDesk" ∈ ax_nest := ax_inN 87 (by decide +kernel) (by decide +kernel)
theorem k_Di_66 : Cond.fieldLinkNest "FormatDesk$Directive" 66 "FormatDesk$Format" "size" "I" "FormatDesk" ∈ ax_nest := ax_inN 88 (by decide +kernel) (by decide +kernel)
theorem k_Fd_40 : Cond.classLink "FormatDesk" 40 "FormatDesk$Directive" ∈ ax_big := ax_in 95 (by decide +kernel) (by decide +kernel)
theorem k_Fd_42 : Cond.methodLinkNest "FormatDesk" 42 ⟨"FormatDesk$Directive", "<init>", "()V"⟩ "FormatDesk" ∈ ax_nest := ax_inN 97 (by decide +kernel) (by decide +kernel)
theorem k_Di_3 : Cond.methodLink "FormatDesk$Directive" 3 ⟨"java/lang/Object", "<init>", "()V"⟩ ∈ ax_big := ax_in 100 (by decide +kernel) (by decide +kernel)
theorem k_Di_32 : Cond.fieldLink "FormatDesk$Directive" 32 "FormatDesk$Directive" "left" "Z" ∈ ax_big := ax_in 101 (by decide +kernel) (by decide +kernel)
theorem k_Fd_167 : Cond.fieldLinkNest "FormatDesk" 167 "FormatDesk$Directive" "left" "Z" "FormatDesk" ∈ ax_nest := ax_inN 102 (by decide +kernel) (by decide +kernel)
theorem k_Di_36 : Cond.fieldLink "FormatDesk$Directive" 36 "FormatDesk$Directive" "plus" "Z" ∈ ax_big := ax_in 103 (by decide +kernel) (by decide +kernel)
theorem k_Pi_36 : Cond.fieldLinkNest "FormatDesk$Piece" 36 "FormatDesk$Directive" "plus" "Z" "FormatDesk" ∈ ax_nest := ax_inN 104 (by decide +kernel) (by decide +kernel)
theorem k_Di_39 : Cond.fieldLink "FormatDesk$Directive" 39 "FormatDesk$Directive" "blank" "Z" ∈ ax_big := ax_in 105 (by decide +kernel) (by decide +kernel)
theorem k_Pi_42 : Cond.fieldLinkNest "FormatDesk$Piece" 42 "FormatDesk$Directive" "blank" "Z" "FormatDesk" ∈ ax_nest := ax_inN 106 (by decide +kernel) (by decide +kernel)
theorem k_Di_42 : Cond.fieldLink "FormatDesk$Directive" 42 "FormatDesk$Directive" "hash" "Z" ∈ ax_big := ax_in 107 (by decide +kernel) (by decide +kernel)
theorem k_Wr_75 : Cond.fieldLinkNest "FormatDesk$Writer" 75 "FormatDesk$Directive" "hash" "Z" "FormatDesk" ∈ ax_nest := ax_inN 108 (by decide +kernel) (by decide +kernel)
theorem k_Di_45 : Cond.fieldLink "FormatDesk$Directive" 45 "FormatDesk$Directive" "zero" "Z" ∈ ax_big := ax_in 109 (by decide +kernel) (by decide +kernel)
theorem k_Fd_164 : Cond.fieldLinkNest "FormatDesk" 164 "FormatDesk$Directive" "zero" "Z" "FormatDesk" ∈ ax_nest := ax_inN 110 (by decide +kernel) (by decide +kernel)
theorem k_Di_48 : Cond.fieldLink "FormatDesk$Directive" 48 "FormatDesk$Directive" "width" "I" ∈ ax_big := ax_in 111 (by decide +kernel) (by decide +kernel)
theorem k_Fd_158 : Cond.fieldLinkNest "FormatDesk" 158 "FormatDesk$Directive" "width" "I" "FormatDesk" ∈ ax_nest := ax_inN 112 (by decide +kernel) (by decide +kernel)
theorem k_Di_51 : Cond.fieldLink "FormatDesk$Directive" 51 "FormatDesk$Directive" "widthIsTaken" "Z" ∈ ax_big := ax_in 113 (by decide +kernel) (by decide +kernel)
theorem k_Fd_131 : Cond.fieldLinkNest "FormatDesk" 131 "FormatDesk$Directive" "widthIsTaken" "Z" "FormatDesk" ∈ ax_nest := ax_inN 114 (by decide +kernel) (by decide +kernel)
theorem k_Di_54 : Cond.fieldLink "FormatDesk$Directive" 54 "FormatDesk$Directive" "precision" "I" ∈ ax_big := ax_in 115 (by decide +kernel) (by decide +kernel)
theorem k_Wr_84 : Cond.fieldLinkNest "FormatDesk$Writer" 84 "FormatDesk$Directive" "precision" "I" "FormatDesk" ∈ ax_nest := ax_inN 116 (by decide +kernel) (by decide +kernel)
theorem k_Di_57 : Cond.fieldLink "FormatDesk$Directive" 57 "FormatDesk$Directive" "precisionIsTaken" "Z" ∈ ax_big := ax_in 117 (by decide +kernel) (by decide +kernel)
theorem k_Fd_142 : Cond.fieldLinkNest "FormatDesk" 142 "FormatDesk$Directive" "precisionIsTaken" "Z" "FormatDesk" ∈ ax_nest := ax_inN 118 (by decide +kernel) (by decide +kernel)
theorem k_Wr_28 : Cond.fieldLinkNest "FormatDesk$Writer" 28 "FormatDesk$Directive" "kind" "I" "FormatDesk" ∈ ax_nest := ax_inN 119 (by decide +kernel) (by decide +kernel)
theorem k_Di_60 : Cond.fieldLink "FormatDesk$Directive" 60 "FormatDesk$Directive" "kind" "I" ∈ ax_big := ax_in 120 (by decide +kernel) (by decide +kernel)
theorem k_Fd_108 : Cond.fieldLinkNest "FormatDesk" 108 "FormatDesk$Directive" "kind" "I" "FormatDesk" ∈ ax_nest := ax_inN 121 (by decide +kernel) (by decide +kernel)
theorem k_Wr_53 : Cond.fieldLinkNest "FormatDesk$Writer" 53 "FormatDesk$Directive" "great" "Z" "FormatDesk" ∈ ax_nest := ax_inN 122 (by decide +kernel) (by decide +kernel)
theorem k_Di_63 : Cond.fieldLink "FormatDesk$Directive" 63 "FormatDesk$Directive" "great" "Z" ∈ ax_big := ax_in 123 (by decide +kernel) (by decide +kernel)
theorem k_Di_14 : Cond.fieldLink "FormatDesk$Directive" 14 "FormatDesk$Directive" "at" "I" ∈ ax_big := ax_in 124 (by decide +kernel) (by decide +kernel)
theorem k_Fd_96 : Cond.fieldLinkNest "FormatDesk" 96 "FormatDesk$Directive" "at" "I" "FormatDesk" ∈ ax_nest := ax_inN 125 (by decide +kernel) (by decide +kernel)
theorem k_Fd_47 : Cond.classLink "FormatDesk" 47 "FormatDesk$Writer" ∈ ax_big := ax_in 152 (by decide +kernel) (by decide +kernel)
theorem k_Fd_49 : Cond.methodLinkNest "FormatDesk" 49 ⟨"FormatDesk$Writer", "<init>", "()V"⟩ "FormatDesk" ∈ ax_nest := ax_inN 154 (by decide +kernel) (by decide +kernel)
theorem k_Wr_5 : Cond.methodLink "FormatDesk$Writer" 5 ⟨"java/lang/Object", "<init>", "()V"⟩ ∈ ax_big := ax_in 157 (by decide +kernel) (by decide +kernel)
theorem k_Wr_11 : Cond.classLink "FormatDesk$Writer" 11 "FormatDesk$Piece" ∈ ax_big := ax_in 158 (by decide +kernel) (by decide +kernel)
theorem k_Wr_13 : Cond.methodLinkNest "FormatDesk$Writer" 13 ⟨"FormatDesk$Piece", "<init>", "()V"⟩ "FormatDesk" ∈ ax_nest := ax_inN 160 (by decide +kernel) (by decide +kernel)
theorem k_Pi_3 : Cond.methodLink "FormatDesk$Piece" 3 ⟨"java/lang/Object", "<init>", "()V"⟩ ∈ ax_big := ax_in 163 (by decide +kernel) (by decide +kernel)
theorem k_Pi_11 : Cond.fieldLink "FormatDesk$Piece" 11 "FormatDesk$Piece" "row" "[B" ∈ ax_big := ax_in 164 (by decide +kernel) (by decide +kernel)
theorem k_Pi_15 : Cond.fieldLink "FormatDesk$Piece" 15 "FormatDesk$Piece" "size" "I" ∈ ax_big := ax_in 165 (by decide +kernel) (by decide +kernel)
theorem k_Fd_161 : Cond.fieldLinkNest "FormatDesk" 161 "FormatDesk$Piece" "size" "I" "FormatDesk" ∈ ax_nest := ax_inN 166 (by decide +kernel) (by decide +kernel)
theorem k_Pi_19 : Cond.fieldLink "FormatDesk$Piece" 19 "FormatDesk$Piece" "zeroPlace" "I" ∈ ax_big := ax_in 167 (by decide +kernel) (by decide +kernel)
theorem k_Fd_170 : Cond.fieldLinkNest "FormatDesk" 170 "FormatDesk$Piece" "zeroPlace" "I" "FormatDesk" ∈ ax_nest := ax_inN 168 (by decide +kernel) (by decide +kernel)
theorem k_Wr_18 : Cond.classLink "FormatDesk$Writer" 18 "FormatDesk$Decimal" ∈ ax_big := ax_in 176 (by decide +kernel) (by decide +kernel)
theorem k_Wr_20 : Cond.methodLinkNest "FormatDesk$Writer" 20 ⟨"FormatDesk$Decimal", "<init>", "()V"⟩ "FormatDesk" ∈ ax_nest := ax_inN 178 (by decide +kernel) (by decide +kernel)
theorem k_De_1 : Cond.methodLink "FormatDesk$Decimal" 1 ⟨"java/lang/Object", "<init>", "()V"⟩ ∈ ax_big := ax_in 181 (by decide +kernel) (by decide +kernel)
theorem k_De_9 : Cond.fieldLink "FormatDesk$Decimal" 9 "FormatDesk$Decimal" "limbs" "[J" ∈ ax_big := ax_in 182 (by decide +kernel) (by decide +kernel)
theorem k_De_13 : Cond.fieldLink "FormatDesk$Decimal" 13 "FormatDesk$Decimal" "limbCount" "I" ∈ ax_big := ax_in 183 (by decide +kernel) (by decide +kernel)
theorem k_De_17 : Cond.fieldLink "FormatDesk$Decimal" 17 "FormatDesk$Decimal" "digits" "[B" ∈ ax_big := ax_in 184 (by decide +kernel) (by decide +kernel)
theorem k_De_21 : Cond.fieldLink "FormatDesk$Decimal" 21 "FormatDesk$Decimal" "digitCount" "I" ∈ ax_big := ax_in 185 (by decide +kernel) (by decide +kernel)
theorem k_De_24 : Cond.fieldLink "FormatDesk$Decimal" 24 "FormatDesk$Decimal" "point" "I" ∈ ax_big := ax_in 186 (by decide +kernel) (by decide +kernel)
theorem k_Wr_127 : Cond.fieldLinkNest "FormatDesk$Writer" 127 "FormatDesk$Decimal" "point" "I" "FormatDesk" ∈ ax_nest := ax_inN 187 (by decide +kernel) (by decide +kernel)
theorem k_Wr_14 : Cond.fieldLink "FormatDesk$Writer" 14 "FormatDesk$Writer" "piece" "LFormatDesk$Piece;" ∈ ax_big := ax_in 199 (by decide +kernel) (by decide +kernel)
theorem k_Fd_119 : Cond.fieldLinkNest "FormatDesk" 119 "FormatDesk$Writer" "piece" "LFormatDesk$Piece;" "FormatDesk" ∈ ax_nest := ax_inN 200 (by decide +kernel) (by decide +kernel)
theorem k_Wr_21 : Cond.fieldLink "FormatDesk$Writer" 21 "FormatDesk$Writer" "decimal" "LFormatDesk$Decimal;" ∈ ax_big := ax_in 201 (by decide +kernel) (by decide +kernel)
theorem k_Fd_10 : Cond.fieldLink "FormatDesk" 10 "FormatDesk" "format" "LFormatDesk$Format;" ∈ ax_big := ax_in 207 (by decide +kernel) (by decide +kernel)
theorem k_Fd_16 : Cond.fieldLink "FormatDesk" 16 "FormatDesk" "arguments" "[J" ∈ ax_big := ax_in 208 (by decide +kernel) (by decide +kernel)
theorem k_Fd_20 : Cond.fieldLink "FormatDesk" 20 "FormatDesk" "argumentCount" "I" ∈ ax_big := ax_in 209 (by decide +kernel) (by decide +kernel)
theorem k_Fd_24 : Cond.fieldLink "FormatDesk" 24 "FormatDesk" "out" "[B" ∈ ax_big := ax_in 210 (by decide +kernel) (by decide +kernel)
theorem k_Fd_28 : Cond.fieldLink "FormatDesk" 28 "FormatDesk" "outCount" "I" ∈ ax_big := ax_in 211 (by decide +kernel) (by decide +kernel)
theorem k_Fd_31 : Cond.fieldLink "FormatDesk" 31 "FormatDesk" "wrongAt" "I" ∈ ax_big := ax_in 212 (by decide +kernel) (by decide +kernel)
theorem k_Fd_34 : Cond.fieldLink "FormatDesk" 34 "FormatDesk" "taken" "I" ∈ ax_big := ax_in 213 (by decide +kernel) (by decide +kernel)
theorem k_Fd_37 : Cond.fieldLink "FormatDesk" 37 "FormatDesk" "directivesDone" "I" ∈ ax_big := ax_in 214 (by decide +kernel) (by decide +kernel)
theorem k_Fd_43 : Cond.fieldLink "FormatDesk" 43 "FormatDesk" "directive" "LFormatDesk$Directive;" ∈ ax_big := ax_in 215 (by decide +kernel) (by decide +kernel)
theorem k_Fd_50 : Cond.fieldLink "FormatDesk" 50 "FormatDesk" "writer" "LFormatDesk$Writer;" ∈ ax_big := ax_in 216 (by decide +kernel) (by decide +kernel)
theorem k_La_52 : Cond.methodLink "FormatDeskLaw" 52 ⟨"FormatDesk", "clear", "()V"⟩ ∈ ax_big := ax_in 238 (by decide +kernel) (by decide +kernel)
theorem k_La_60 : Cond.methodLink "FormatDeskLaw" 60 ⟨"FormatDesk", "wrong", "()I"⟩ ∈ ax_big := ax_in 242 (by decide +kernel) (by decide +kernel)
theorem k_La_40 : Cond.methodLink "FormatDeskLaw" 40 ⟨"FormatDeskLaw", "text", "(LFormatDesk;J[J)I"⟩ ∈ ax_big := ax_in 246 (by decide +kernel) (by decide +kernel)
theorem k_La_13 : Cond.classLink "FormatDeskLaw" 13 "java/lang/IndexOutOfBoundsException" ∈ ax_big := ax_in 249 (by decide +kernel) (by decide +kernel)
theorem k_La_7 : Cond.methodLink "FormatDeskLaw" 7 ⟨"FormatDesk", "text", "(J)I"⟩ ∈ ax_big := ax_in 250 (by decide +kernel) (by decide +kernel)
theorem k_Fd_54 : Cond.methodLink "FormatDesk" 54 ⟨"FormatDesk$Format", "octetsBeforeZero", "(J)I"⟩ ∈ ax_big := ax_in 254 (by decide +kernel) (by decide +kernel)
theorem k_Fo_19 : Cond.methodLink "FormatDesk$Format" 19 ⟨"FormatDesk$Format", "octet", "(JI)I"⟩ ∈ ax_big := ax_in 257 (by decide +kernel) (by decide +kernel)
theorem k_Fd_61 : Cond.classLink "FormatDesk" 61 "java/lang/IndexOutOfBoundsException" ∈ ax_big := ax_in 260 (by decide +kernel) (by decide +kernel)
theorem k_Fd_63 : Cond.methodLink "FormatDesk" 63 ⟨"java/lang/IndexOutOfBoundsException", "<init>", "()V"⟩ ∈ ax_big := ax_in 301 (by decide +kernel) (by decide +kernel)
theorem k_Fd_64 : Cond.methodLink "FormatDesk" 64 ⟨"FormatDesk$Format", "add", "(JI)V"⟩ ∈ ax_big := ax_in 323 (by decide +kernel) (by decide +kernel)
theorem k_La_49 : Cond.methodLink "FormatDeskLaw" 49 ⟨"FormatDeskLaw", "argument", "(LFormatDesk;J[J)I"⟩ ∈ ax_big := ax_in 327 (by decide +kernel) (by decide +kernel)
theorem k_La_15 : Cond.methodLink "FormatDeskLaw" 15 ⟨"FormatDesk", "argument", "(J)I"⟩ ∈ ax_big := ax_in 330 (by decide +kernel) (by decide +kernel)
theorem k_La_56 : Cond.methodLink "FormatDeskLaw" 56 ⟨"FormatDeskLaw", "run", "(LFormatDesk;[J)I"⟩ ∈ ax_big := ax_in 334 (by decide +kernel) (by decide +kernel)
theorem k_La_22 : Cond.classLink "FormatDeskLaw" 22 "java/lang/IllegalArgumentException" ∈ ax_big := ax_in 337 (by decide +kernel) (by decide +kernel)
theorem k_La_24 : Cond.classLink "FormatDeskLaw" 24 "java/lang/UnsupportedOperationException" ∈ ax_big := ax_in 338 (by decide +kernel) (by decide +kernel)
theorem k_La_18 : Cond.methodLink "FormatDeskLaw" 18 ⟨"FormatDesk", "run", "()I"⟩ ∈ ax_big := ax_in 339 (by decide +kernel) (by decide +kernel)
theorem k_Fd_68 : Cond.methodLink "FormatDesk" 68 ⟨"FormatDesk", "forgetLatestRun", "()V"⟩ ∈ ax_big := ax_in 343 (by decide +kernel) (by decide +kernel)
theorem k_Fd_71 : Cond.methodLink "FormatDesk" 71 ⟨"FormatDesk", "placeOfWrong", "()I"⟩ ∈ ax_big := ax_in 347 (by decide +kernel) (by decide +kernel)
theorem k_Fd_85 : Cond.methodLink "FormatDesk" 85 ⟨"FormatDesk$Format", "placeOfForeignLetter", "()I"⟩ ∈ ax_big := ax_in 351 (by decide +kernel) (by decide +kernel)
theorem k_Fo_23 : Cond.methodLink "FormatDesk$Format" 23 ⟨"FormatDesk$Format", "letterAt", "(I)I"⟩ ∈ ax_big := ax_in 355 (by decide +kernel) (by decide +kernel)
theorem k_Fo_27 : Cond.methodLink "FormatDesk$Format" 27 ⟨"FormatDesk$Format", "isForeign", "(I)Z"⟩ ∈ ax_big := ax_in 359 (by decide +kernel) (by decide +kernel)
theorem k_Fd_88 : Cond.methodLink "FormatDesk" 88 ⟨"FormatDesk$Format", "letterAt", "(I)I"⟩ ∈ ax_big := ax_in 362 (by decide +kernel) (by decide +kernel)
theorem k_Fd_92 : Cond.methodLink "FormatDesk" 92 ⟨"FormatDesk$Directive", "read", "(LFormatDesk$Format;I)Z"⟩ ∈ ax_big := ax_in 363 (by decide +kernel) (by decide +kernel)
theorem k_Di_9 : Cond.methodLink "FormatDesk$Directive" 9 ⟨"FormatDesk$Directive", "forget", "()V"⟩ ∈ ax_big := ax_in 367 (by decide +kernel) (by decide +kernel)
theorem k_Di_18 : Cond.methodLink "FormatDesk$Directive" 18 ⟨"FormatDesk$Directive", "readFlags", "(LFormatDesk$Format;)V"⟩ ∈ ax_big := ax_in 371 (by decide +kernel) (by decide +kernel)
theorem k_Di_71 : Cond.methodLink "FormatDesk$Directive" 71 ⟨"FormatDesk$Format", "letterAt", "(I)I"⟩ ∈ ax_big := ax_in 375 (by decide +kernel) (by decide +kernel)
theorem k_Di_22 : Cond.methodLink "FormatDesk$Directive" 22 ⟨"FormatDesk$Directive", "readWidth", "(LFormatDesk$Format;)Z"⟩ ∈ ax_big := ax_in 376 (by decide +kernel) (by decide +kernel)
theorem k_Di_75 : Cond.methodLink "FormatDesk$Directive" 75 ⟨"FormatDesk$Directive", "readIf", "(LFormatDesk$Format;I)Z"⟩ ∈ ax_big := ax_in 380 (by decide +kernel) (by decide +kernel)
theorem k_Di_79 : Cond.methodLink "FormatDesk$Directive" 79 ⟨"FormatDesk$Directive", "readDigits", "(LFormatDesk$Format;)I"⟩ ∈ ax_big := ax_in 384 (by decide +kernel) (by decide +kernel)
theorem k_Di_83 : Cond.methodLink "FormatDesk$Directive" 83 ⟨"FormatDesk$Directive", "isDigit", "(I)Z"⟩ ∈ ax_big := ax_in 388 (by decide +kernel) (by decide +kernel)
theorem k_Di_26 : Cond.methodLink "FormatDesk$Directive" 26 ⟨"FormatDesk$Directive", "readPrecision", "(LFormatDesk$Format;)Z"⟩ ∈ ax_big := ax_in 391 (by decide +kernel) (by decide +kernel)
theorem k_Di_29 : Cond.methodLink "FormatDesk$Directive" 29 ⟨"FormatDesk$Directive", "readKind", "(LFormatDesk$Format;)Z"⟩ ∈ ax_big := ax_in 395 (by decide +kernel) (by decide +kernel)
theorem k_Di_89 : Cond.methodLink "FormatDesk$Directive" 89 ⟨"java/lang/String", "indexOf", "(I)I"⟩ ∈ ax_big := ax_in 400 (by decide +kernel) (by decide +kernel)
theorem k_St_633 : Cond.methodLink "java/lang/String" 633 ⟨"java/lang/String", "indexOf", "(II)I"⟩ ∈ ax_big := ax_in 404 (by decide +kernel) (by decide +kernel)
theorem k_St_492 : Cond.methodLink "java/lang/String" 492 ⟨"java/lang/String", "isLatin1", "()Z"⟩ ∈ ax_big := ax_in 408 (by decide +kernel) (by decide +kernel)
theorem k_St_38 : Cond.fieldLink "java/lang/String" 38 "java/lang/String" "COMPACT_STRINGS" "Z" ∈ ax_big := ax_in 412 (by decide +kernel) (by decide +kernel)
theorem k_St_505 : Cond.methodLink "java/lang/String" 505 ⟨"java/lang/String", "length", "()I"⟩ ∈ ax_big := ax_in 414 (by decide +kernel) (by decide +kernel)
theorem k_St_335 : Cond.methodLink "java/lang/String" 335 ⟨"java/lang/String", "coder", "()B"⟩ ∈ ax_big := ax_in 418 (by decide +kernel) (by decide +kernel)
theorem k_St_637 : Cond.methodLink "java/lang/String" 637 ⟨"java/lang/StringLatin1", "indexOf", "([BIII)I"⟩ ∈ ax_big := ax_in 422 (by decide +kernel) (by decide +kernel)
theorem k_Sl_88 : Cond.methodLink "java/lang/StringLatin1" 88 ⟨"java/lang/StringLatin1", "canEncode", "(I)Z"⟩ ∈ ax_big := ax_in 425 (by decide +kernel) (by decide +kernel)
theorem k_Sl_92 : Cond.methodLink "java/lang/StringLatin1" 92 ⟨"java/lang/Math", "max", "(II)I"⟩ ∈ ax_big := ax_in 428 (by decide +kernel) (by decide +kernel)
theorem k_Sl_38 : Cond.methodLink "java/lang/StringLatin1" 38 ⟨"java/lang/Math", "min", "(II)I"⟩ ∈ ax_big := ax_in 431 (by decide +kernel) (by decide +kernel)
theorem k_Sl_95 : Cond.methodLink "java/lang/StringLatin1" 95 ⟨"java/lang/StringLatin1", "indexOfChar", "([BIII)I"⟩ ∈ ax_big := ax_in 434 (by decide +kernel) (by decide +kernel)
theorem k_St_640 : Cond.methodLink "java/lang/String" 640 ⟨"java/lang/StringUTF16", "indexOf", "([BIII)I"⟩ ∈ ax_big := ax_in 437 (by decide +kernel) (by decide +kernel)
theorem k_Su_224 : Cond.methodLink "java/lang/StringUTF16" 224 ⟨"java/lang/Math", "max", "(II)I"⟩ ∈ ax_big := ax_in 440 (by decide +kernel) (by decide +kernel)
theorem k_Su_183 : Cond.methodLink "java/lang/StringUTF16" 183 ⟨"java/lang/Math", "min", "(II)I"⟩ ∈ ax_big := ax_in 441 (by decide +kernel) (by decide +kernel)
theorem k_Su_227 : Cond.constant "java/lang/StringUTF16" 227 (65536 : Int32) ∈ ax_big := ax_in 442 (by decide +kernel) (by decide +kernel)
theorem k_Su_228 : Cond.methodLink "java/lang/StringUTF16" 228 ⟨"java/lang/StringUTF16", "indexOfChar", "([BIII)I"⟩ ∈ ax_big := ax_in 443 (by decide +kernel) (by decide +kernel)
theorem k_Su_96 : Cond.methodLink "java/lang/StringUTF16" 96 ⟨"java/lang/StringUTF16", "checkBoundsBeginEnd", "(II[B)V"⟩ ∈ ax_big := ax_in 446 (by decide +kernel) (by decide +kernel)
theorem k_Su_48 : Cond.methodLink "java/lang/StringUTF16" 48 ⟨"java/lang/StringUTF16", "length", "([B)I"⟩ ∈ ax_big := ax_in 449 (by decide +kernel) (by decide +kernel)
theorem k_Su_241 : Cond.methodLink "java/lang/StringUTF16" 241 ⟨"java/lang/String", "checkBoundsBeginEnd", "(III)V"⟩ ∈ ax_big := ax_in 452 (by decide +kernel) (by decide +kernel)
theorem k_St_1053 : Cond.fieldLink "java/lang/String" 1053 "jdk/internal/util/Preconditions" "SIOOBE_FORMATTER" "Ljava/util/function/BiFunction;" ∈ ax_big := ax_in 455 (by decide +kernel) (by decide +kernel)
theorem k_St_1062 : Cond.methodLink "java/lang/String" 1062 ⟨"jdk/internal/util/Preconditions", "checkFromToIndex", "(IIILjava/util/function/BiFunction;)I"⟩ ∈ ax_big := ax_in 457 (by decide +kernel) (by decide +kernel)
theorem k_Su_244 : Cond.methodLink "java/lang/StringUTF16" 244 ⟨"java/lang/StringUTF16", "indexOfCharUnsafe", "([BIII)I"⟩ ∈ ax_big := ax_in 460 (by decide +kernel) (by decide +kernel)
theorem k_Su_71 : Cond.methodLink "java/lang/StringUTF16" 71 ⟨"java/lang/StringUTF16", "getChar", "([BI)C"⟩ ∈ ax_big := ax_in 463 (by decide +kernel) (by decide +kernel)
theorem k_Su_44 : Cond.fieldLink "java/lang/StringUTF16" 44 "java/lang/StringUTF16" "$assertionsDisabled" "Z" ∈ ax_big := ax_in 466 (by decide +kernel) (by decide +kernel)
theorem k_Su_59 : Cond.fieldLink "java/lang/StringUTF16" 59 "java/lang/StringUTF16" "HI_BYTE_SHIFT" "I" ∈ ax_big := ax_in 468 (by decide +kernel) (by decide +kernel)
theorem k_Su_63 : Cond.fieldLink "java/lang/StringUTF16" 63 "java/lang/StringUTF16" "LO_BYTE_SHIFT" "I" ∈ ax_big := ax_in 470 (by decide +kernel) (by decide +kernel)
theorem k_Su_232 : Cond.methodLink "java/lang/StringUTF16" 232 ⟨"java/lang/StringUTF16", "indexOfSupplementary", "([BIII)I"⟩ ∈ ax_big := ax_in 472 (by decide +kernel) (by decide +kernel)
theorem k_Su_164 : Cond.methodLink "java/lang/StringUTF16" 164 ⟨"java/lang/Character", "isValidCodePoint", "(I)Z"⟩ ∈ ax_big := ax_in 475 (by decide +kernel) (by decide +kernel)
theorem k_Su_157 : Cond.methodLink "java/lang/StringUTF16" 157 ⟨"java/lang/Character", "highSurrogate", "(I)C"⟩ ∈ ax_big := ax_in 478 (by decide +kernel) (by decide +kernel)
theorem k_Ch_110 : Cond.constant "java/lang/Character" 110 (55232 : Int32) ∈ ax_big := ax_in 481 (by decide +kernel) (by decide +kernel)
theorem k_Su_161 : Cond.methodLink "java/lang/StringUTF16" 161 ⟨"java/lang/Character", "lowSurrogate", "(I)C"⟩ ∈ ax_big := ax_in 482 (by decide +kernel) (by decide +kernel)
theorem k_Ch_76 : Cond.constant "java/lang/Character" 76 (56320 : Int32) ∈ ax_big := ax_in 485 (by decide +kernel) (by decide +kernel)
theorem k_Fd_99 : Cond.methodLink "FormatDesk" 99 ⟨"java/lang/Math", "max", "(II)I"⟩ ∈ ax_big := ax_in 486 (by decide +kernel) (by decide +kernel)
theorem k_Fd_75 : Cond.classLink "FormatDesk" 75 "java/lang/IllegalArgumentException" ∈ ax_big := ax_in 487 (by decide +kernel) (by decide +kernel)
theorem k_Fd_77 : Cond.methodLink "FormatDesk" 77 ⟨"java/lang/IllegalArgumentException", "<init>", "()V"⟩ ∈ ax_big := ax_in 496 (by decide +kernel) (by decide +kernel)
theorem k_Fd_78 : Cond.methodLink "FormatDesk" 78 ⟨"FormatDesk", "putOutAll", "()Z"⟩ ∈ ax_big := ax_in 502 (by decide +kernel) (by decide +kernel)
theorem k_Fd_105 : Cond.methodLink "FormatDesk" 105 ⟨"FormatDesk", "takeStars", "()V"⟩ ∈ ax_big := ax_in 506 (by decide +kernel) (by decide +kernel)
theorem k_Fd_135 : Cond.methodLink "FormatDesk" 135 ⟨"FormatDesk", "takeForStar", "()I"⟩ ∈ ax_big := ax_in 510 (by decide +kernel) (by decide +kernel)
theorem k_Fd_148 : Cond.constantLong "FormatDesk" 148 (-200 : Int64) ∈ ax_big := ax_in 514 (by decide +kernel) (by decide +kernel)
theorem k_Fd_150 : Cond.constantLong "FormatDesk" 150 (200 : Int64) ∈ ax_big := ax_in 515 (by decide +kernel) (by decide +kernel)
theorem k_Fd_111 : Cond.methodLink "FormatDesk" 111 ⟨"FormatDesk", "take", "()J"⟩ ∈ ax_big := ax_in 516 (by decide +kernel) (by decide +kernel)
theorem k_Fd_152 : Cond.methodLink "FormatDesk" 152 ⟨"java/lang/Math", "min", "(JJ)J"⟩ ∈ ax_big := ax_in 520 (by decide +kernel) (by decide +kernel)
theorem k_Fd_156 : Cond.methodLink "FormatDesk" 156 ⟨"java/lang/Math", "max", "(JJ)J"⟩ ∈ ax_big := ax_in 523 (by decide +kernel) (by decide +kernel)
theorem k_Fd_138 : Cond.methodLink "FormatDesk" 138 ⟨"FormatDesk$Directive", "useTakenWidth", "(I)V"⟩ ∈ ax_big := ax_in 526 (by decide +kernel) (by decide +kernel)
theorem k_Fd_145 : Cond.methodLink "FormatDesk" 145 ⟨"FormatDesk$Directive", "useTakenPrecision", "(I)V"⟩ ∈ ax_big := ax_in 530 (by decide +kernel) (by decide +kernel)
theorem k_Fd_115 : Cond.methodLink "FormatDesk" 115 ⟨"FormatDesk$Writer", "write", "(JLFormatDesk$Directive;)V"⟩ ∈ ax_big := ax_in 534 (by decide +kernel) (by decide +kernel)
theorem k_Wr_25 : Cond.methodLink "FormatDesk$Writer" 25 ⟨"FormatDesk$Piece", "becomeEmpty", "()V"⟩ ∈ ax_big := ax_in 538 (by decide +kernel) (by decide +kernel)
theorem k_Wr_34 : Cond.methodLink "FormatDesk$Writer" 34 ⟨"FormatDesk$Piece", "put", "(I)V"⟩ ∈ ax_big := ax_in 542 (by decide +kernel) (by decide +kernel)
theorem k_Wr_38 : Cond.methodLink "FormatDesk$Writer" 38 ⟨"FormatDesk$Writer", "writeLetter", "(J)V"⟩ ∈ ax_big := ax_in 546 (by decide +kernel) (by decide +kernel)
theorem k_Wr_60 : Cond.constantLong "FormatDesk$Writer" 60 (127 : Int64) ∈ ax_big := ax_in 550 (by decide +kernel) (by decide +kernel)
theorem k_Wr_62 : Cond.methodLink "FormatDesk$Writer" 62 ⟨"FormatDesk$Format", "isForeign", "(I)Z"⟩ ∈ ax_big := ax_in 551 (by decide +kernel) (by decide +kernel)
theorem k_Wr_42 : Cond.methodLink "FormatDesk$Writer" 42 ⟨"FormatDesk$Writer", "writeSigned", "(JLFormatDesk$Directive;)V"⟩ ∈ ax_big := ax_in 552 (by decide +kernel) (by decide +kernel)
theorem k_Wr_68 : Cond.methodLink "FormatDesk$Writer" 68 ⟨"FormatDesk$Piece", "putSign", "(ZLFormatDesk$Directive;)V"⟩ ∈ ax_big := ax_in 556 (by decide +kernel) (by decide +kernel)
theorem k_Pi_32 : Cond.methodLink "FormatDesk$Piece" 32 ⟨"FormatDesk$Piece", "put", "(I)V"⟩ ∈ ax_big := ax_in 560 (by decide +kernel) (by decide +kernel)
theorem k_Wr_72 : Cond.methodLink "FormatDesk$Writer" 72 ⟨"FormatDesk$Writer", "writeDigits", "(JILFormatDesk$Directive;)V"⟩ ∈ ax_big := ax_in 561 (by decide +kernel) (by decide +kernel)
theorem k_Wr_87 : Cond.methodLink "FormatDesk$Writer" 87 ⟨"FormatDesk$Piece", "letZerosComeHere", "()V"⟩ ∈ ax_big := ax_in 565 (by decide +kernel) (by decide +kernel)
theorem k_Wr_90 : Cond.methodLink "FormatDesk$Writer" 90 ⟨"FormatDesk$Piece", "digitsOf", "(JI)I"⟩ ∈ ax_big := ax_in 569 (by decide +kernel) (by decide +kernel)
theorem k_Pi_47 : Cond.methodLink "FormatDesk$Piece" 47 ⟨"FormatDesk$Piece", "withoutLastDigit", "(JI)J"⟩ ∈ ax_big := ax_in 572 (by decide +kernel) (by decide +kernel)
theorem k_Pi_51 : Cond.constantLong "FormatDesk$Piece" 51 (5 : Int64) ∈ ax_big := ax_in 575 (by decide +kernel) (by decide +kernel)
theorem k_Wr_94 : Cond.methodLink "FormatDesk$Writer" 94 ⟨"java/lang/Math", "max", "(II)I"⟩ ∈ ax_big := ax_in 576 (by decide +kernel) (by decide +kernel)
theorem k_Wr_100 : Cond.methodLink "FormatDesk$Writer" 100 ⟨"FormatDesk$Piece", "putWhole", "(JII)V"⟩ ∈ ax_big := ax_in 577 (by decide +kernel) (by decide +kernel)
theorem k_Pi_28 : Cond.methodLink "FormatDesk$Piece" 28 ⟨"java/lang/String", "charAt", "(I)C"⟩ ∈ ax_big := ax_in 582 (by decide +kernel) (by decide +kernel)
theorem k_St_495 : Cond.methodLink "java/lang/String" 495 ⟨"java/lang/StringLatin1", "charAt", "([BI)C"⟩ ∈ ax_big := ax_in 586 (by decide +kernel) (by decide +kernel)
theorem k_Sl_9 : Cond.methodLink "java/lang/StringLatin1" 9 ⟨"java/lang/String", "checkIndex", "(II)V"⟩ ∈ ax_big := ax_in 589 (by decide +kernel) (by decide +kernel)
theorem k_St_1059 : Cond.methodLink "java/lang/String" 1059 ⟨"jdk/internal/util/Preconditions", "checkIndex", "(IILjava/util/function/BiFunction;)I"⟩ ∈ ax_big := ax_in 592 (by decide +kernel) (by decide +kernel)
theorem k_St_498 : Cond.methodLink "java/lang/String" 498 ⟨"java/lang/StringUTF16", "charAt", "([BI)C"⟩ ∈ ax_big := ax_in 595 (by decide +kernel) (by decide +kernel)
theorem k_Su_67 : Cond.methodLink "java/lang/StringUTF16" 67 ⟨"java/lang/StringUTF16", "checkIndex", "(I[B)V"⟩ ∈ ax_big := ax_in 598 (by decide +kernel) (by decide +kernel)
theorem k_Su_414 : Cond.methodLink "java/lang/StringUTF16" 414 ⟨"java/lang/String", "checkIndex", "(II)V"⟩ ∈ ax_big := ax_in 601 (by decide +kernel) (by decide +kernel)
theorem k_Wr_46 : Cond.methodLink "FormatDesk$Writer" 46 ⟨"FormatDesk$Writer", "writeUnsigned", "(JILFormatDesk$Directive;)V"⟩ ∈ ax_big := ax_in 602 (by decide +kernel) (by decide +kernel)
theorem k_Wr_80 : Cond.methodLink "FormatDesk$Writer" 80 ⟨"FormatDesk$Piece", "putWord", "(Ljava/lang/String;)V"⟩ ∈ ax_big := ax_in 607 (by decide +kernel) (by decide +kernel)
theorem k_Pi_22 : Cond.methodLink "FormatDesk$Piece" 22 ⟨"java/lang/String", "length", "()I"⟩ ∈ ax_big := ax_in 611 (by decide +kernel) (by decide +kernel)
theorem k_Wr_50 : Cond.methodLink "FormatDesk$Writer" 50 ⟨"FormatDesk$Writer", "writeFloating", "(JLFormatDesk$Directive;)V"⟩ ∈ ax_big := ax_in 612 (by decide +kernel) (by decide +kernel)
theorem k_Wr_104 : Cond.constantLong "FormatDesk$Writer" 104 (4503599627370495 : Int64) ∈ ax_big := ax_in 616 (by decide +kernel) (by decide +kernel)
theorem k_Wr_110 : Cond.constantLong "FormatDesk$Writer" 110 (4503599627370496 : Int64) ∈ ax_big := ax_in 619 (by decide +kernel) (by decide +kernel)
theorem k_Wr_112 : Cond.methodLink "FormatDesk$Writer" 112 ⟨"FormatDesk$Writer", "writeHexadecimal", "(JILFormatDesk$Directive;)V"⟩ ∈ ax_big := ax_in 620 (by decide +kernel) (by decide +kernel)
theorem k_Wr_154 : Cond.methodLink "FormatDesk$Writer" 154 ⟨"FormatDesk$Writer", "hexadecimalDigitsOf", "(J)I"⟩ ∈ ax_big := ax_in 624 (by decide +kernel) (by decide +kernel)
theorem k_Wr_165 : Cond.constantLong "FormatDesk$Writer" 165 (15 : Int64) ∈ ax_big := ax_in 627 (by decide +kernel) (by decide +kernel)
theorem k_Wr_158 : Cond.methodLink "FormatDesk$Writer" 158 ⟨"FormatDesk$Writer", "roundHexadecimal", "(JI)J"⟩ ∈ ax_big := ax_in 628 (by decide +kernel) (by decide +kernel)
theorem k_Wr_162 : Cond.methodLink "FormatDesk$Writer" 162 ⟨"FormatDesk$Piece", "putDigit", "(I)V"⟩ ∈ ax_big := ax_in 631 (by decide +kernel) (by decide +kernel)
theorem k_Wr_151 : Cond.methodLink "FormatDesk$Writer" 151 ⟨"FormatDesk$Writer", "putPoint", "(IZ)V"⟩ ∈ ax_big := ax_in 635 (by decide +kernel) (by decide +kernel)
theorem k_Wr_144 : Cond.methodLink "FormatDesk$Writer" 144 ⟨"FormatDesk$Writer", "putExponent", "(IZ)V"⟩ ∈ ax_big := ax_in 639 (by decide +kernel) (by decide +kernel)
theorem k_Wr_115 : Cond.methodLink "FormatDesk$Writer" 115 ⟨"FormatDesk$Decimal", "become", "(JI)V"⟩ ∈ ax_big := ax_in 643 (by decide +kernel) (by decide +kernel)
theorem k_De_27 : Cond.methodLink "FormatDesk$Decimal" 27 ⟨"FormatDesk$Decimal", "becomeZero", "()V"⟩ ∈ ax_big := ax_in 647 (by decide +kernel) (by decide +kernel)
theorem k_De_30 : Cond.constantLong "FormatDesk$Decimal" 30 (1000000000 : Int64) ∈ ax_big := ax_in 651 (by decide +kernel) (by decide +kernel)
theorem k_De_32 : Cond.methodLink "FormatDesk$Decimal" 32 ⟨"java/lang/Math", "min", "(II)I"⟩ ∈ ax_big := ax_in 652 (by decide +kernel) (by decide +kernel)
theorem k_De_38 : Cond.methodLink "FormatDesk$Decimal" 38 ⟨"FormatDesk$Decimal", "multiply", "(J)V"⟩ ∈ ax_big := ax_in 653 (by decide +kernel) (by decide +kernel)
theorem k_De_42 : Cond.fieldLink "FormatDesk$Decimal" 42 "FormatDesk$Decimal" "FIVES" "[J" ∈ ax_big := ax_in 657 (by decide +kernel) (by decide +kernel)
theorem k_De_45 : Cond.methodLink "FormatDesk$Decimal" 45 ⟨"FormatDesk$Decimal", "spell", "()V"⟩ ∈ ax_big := ax_in 659 (by decide +kernel) (by decide +kernel)
theorem k_De_48 : Cond.constantLong "FormatDesk$Decimal" 48 (10 : Int64) ∈ ax_big := ax_in 663 (by decide +kernel) (by decide +kernel)
theorem k_Wr_119 : Cond.methodLink "FormatDesk$Writer" 119 ⟨"FormatDesk$Writer", "writeDecimal", "(LFormatDesk$Directive;)V"⟩ ∈ ax_big := ax_in 664 (by decide +kernel) (by decide +kernel)
theorem k_Wr_123 : Cond.methodLink "FormatDesk$Writer" 123 ⟨"FormatDesk$Writer", "precisionOf", "(LFormatDesk$Directive;)I"⟩ ∈ ax_big := ax_in 668 (by decide +kernel) (by decide +kernel)
theorem k_Wr_130 : Cond.methodLink "FormatDesk$Writer" 130 ⟨"FormatDesk$Decimal", "round", "(I)V"⟩ ∈ ax_big := ax_in 671 (by decide +kernel) (by decide +kernel)
theorem k_De_50 : Cond.methodLink "FormatDesk$Decimal" 50 ⟨"FormatDesk$Decimal", "neededFrom", "(I)I"⟩ ∈ ax_big := ax_in 675 (by decide +kernel) (by decide +kernel)
theorem k_De_54 : Cond.methodLink "FormatDesk$Decimal" 54 ⟨"FormatDesk$Decimal", "digitAt", "(I)I"⟩ ∈ ax_big := ax_in 679 (by decide +kernel) (by decide +kernel)
theorem k_De_57 : Cond.methodLink "FormatDesk$Decimal" 57 ⟨"FormatDesk$Decimal", "addOneAtTheEnd", "()V"⟩ ∈ ax_big := ax_in 683 (by decide +kernel) (by decide +kernel)
theorem k_Wr_133 : Cond.methodLink "FormatDesk$Writer" 133 ⟨"FormatDesk$Decimal", "neededFrom", "(I)I"⟩ ∈ ax_big := ax_in 687 (by decide +kernel) (by decide +kernel)
theorem k_Wr_137 : Cond.methodLink "FormatDesk$Writer" 137 ⟨"java/lang/Math", "min", "(II)I"⟩ ∈ ax_big := ax_in 688 (by decide +kernel) (by decide +kernel)
theorem k_Wr_140 : Cond.methodLink "FormatDesk$Writer" 140 ⟨"FormatDesk$Writer", "putDigits", "(IIZ)V"⟩ ∈ ax_big := ax_in 689 (by decide +kernel) (by decide +kernel)
theorem k_Wr_148 : Cond.methodLink "FormatDesk$Writer" 148 ⟨"FormatDesk$Decimal", "digitAt", "(I)I"⟩ ∈ ax_big := ax_in 693 (by decide +kernel) (by decide +kernel)
theorem k_Wr_57 : Cond.methodLink "FormatDesk$Writer" 57 ⟨"FormatDesk$Piece", "becomeGreat", "()V"⟩ ∈ ax_big := ax_in 694 (by decide +kernel) (by decide +kernel)
theorem k_Fd_123 : Cond.methodLink "FormatDesk" 123 ⟨"FormatDesk", "putOutPiece", "(LFormatDesk$Piece;)Z"⟩ ∈ ax_big := ax_in 698 (by decide +kernel) (by decide +kernel)
theorem k_Fd_173 : Cond.methodLink "FormatDesk" 173 ⟨"FormatDesk$Piece", "letterAt", "(I)I"⟩ ∈ ax_big := ax_in 702 (by decide +kernel) (by decide +kernel)
theorem k_Fd_127 : Cond.methodLink "FormatDesk" 127 ⟨"FormatDesk", "putOut", "(I)Z"⟩ ∈ ax_big := ax_in 706 (by decide +kernel) (by decide +kernel)
theorem k_Fd_82 : Cond.classLink "FormatDesk" 82 "java/lang/UnsupportedOperationException" ∈ ax_big := ax_in 710 (by decide +kernel) (by decide +kernel)
theorem k_Fd_84 : Cond.methodLink "FormatDesk" 84 ⟨"java/lang/UnsupportedOperationException", "<init>", "()V"⟩ ∈ ax_big := ax_in 719 (by decide +kernel) (by decide +kernel)
theorem k_La_64 : Cond.methodLink "FormatDeskLaw" 64 ⟨"FormatDeskLaw", "letters", "(LFormatDesk;I[J)I"⟩ ∈ ax_big := ax_in 725 (by decide +kernel) (by decide +kernel)
theorem k_La_26 : Cond.methodLink "FormatDeskLaw" 26 ⟨"FormatDesk", "letters", "(I)J"⟩ ∈ ax_big := ax_in 728 (by decide +kernel) (by decide +kernel)
theorem k_La_68 : Cond.methodLink "FormatDeskLaw" 68 ⟨"FormatDeskLaw", "count", "(LFormatDesk;I[J)I"⟩ ∈ ax_big := ax_in 732 (by decide +kernel) (by decide +kernel)
theorem k_La_30 : Cond.methodLink "FormatDeskLaw" 30 ⟨"FormatDesk", "count", "(I)I"⟩ ∈ ax_big := ax_in 735 (by decide +kernel) (by decide +kernel)
theorem k_La_35 : Cond.classLink "FormatDeskLaw" 35 "FormatDeskModel" ∈ ax_big := ax_in 739 (by decide +kernel) (by decide +kernel)
theorem k_La_37 : Cond.methodLink "FormatDeskLaw" 37 ⟨"FormatDeskModel", "<init>", "()V"⟩ ∈ ax_big := ax_in 741 (by decide +kernel) (by decide +kernel)
theorem k_Mo_1 : Cond.methodLink "FormatDeskModel" 1 ⟨"java/lang/Object", "<init>", "()V"⟩ ∈ ax_big := ax_in 744 (by decide +kernel) (by decide +kernel)
theorem k_Mo_39 : Cond.fieldLink "FormatDeskModel" 39 "FormatDeskModel" "err" "I" ∈ ax_big := ax_in 745 (by decide +kernel) (by decide +kernel)
theorem k_Mo_44 : Cond.fieldLink "FormatDeskModel" 44 "FormatDeskModel" "letters" "I" ∈ ax_big := ax_in 746 (by decide +kernel) (by decide +kernel)
theorem k_Mo_51 : Cond.fieldLink "FormatDeskModel" 51 "FormatDeskModel" "many" "I" ∈ ax_big := ax_in 747 (by decide +kernel) (by decide +kernel)
theorem k_Mo_119 : Cond.fieldLink "FormatDeskModel" 119 "FormatDeskModel" "out" "I" ∈ ax_big := ax_in 748 (by decide +kernel) (by decide +kernel)
theorem k_Mo_112 : Cond.fieldLink "FormatDeskModel" 112 "FormatDeskModel" "taken" "I" ∈ ax_big := ax_in 749 (by decide +kernel) (by decide +kernel)
theorem k_Mo_122 : Cond.fieldLink "FormatDeskModel" 122 "FormatDeskModel" "did" "I" ∈ ax_big := ax_in 750 (by decide +kernel) (by decide +kernel)
theorem k_Mo_7 : Cond.fieldLink "FormatDeskModel" 7 "FormatDeskModel" "wrong" "I" ∈ ax_big := ax_in 751 (by decide +kernel) (by decide +kernel)
theorem k_Mo_13 : Cond.fieldLink "FormatDeskModel" 13 "FormatDeskModel" "format" "[I" ∈ ax_big := ax_in 752 (by decide +kernel) (by decide +kernel)
theorem k_Mo_17 : Cond.fieldLink "FormatDeskModel" 17 "FormatDeskModel" "put" "[I" ∈ ax_big := ax_in 753 (by decide +kernel) (by decide +kernel)
theorem k_Mo_20 : Cond.fieldLink "FormatDeskModel" 20 "FormatDeskModel" "argument" "[J" ∈ ax_big := ax_in 754 (by decide +kernel) (by decide +kernel)
theorem k_Mo_54 : Cond.fieldLink "FormatDeskModel" 54 "FormatDeskModel" "at" "I" ∈ ax_big := ax_in 755 (by decide +kernel) (by decide +kernel)
theorem k_Mo_91 : Cond.fieldLink "FormatDeskModel" 91 "FormatDeskModel" "width" "I" ∈ ax_big := ax_in 756 (by decide +kernel) (by decide +kernel)
theorem k_Mo_94 : Cond.fieldLink "FormatDeskModel" 94 "FormatDeskModel" "precision" "I" ∈ ax_big := ax_in 757 (by decide +kernel) (by decide +kernel)
theorem k_Mo_69 : Cond.fieldLink "FormatDeskModel" 69 "FormatDeskModel" "left" "Z" ∈ ax_big := ax_in 758 (by decide +kernel) (by decide +kernel)
theorem k_Mo_73 : Cond.fieldLink "FormatDeskModel" 73 "FormatDeskModel" "plus" "Z" ∈ ax_big := ax_in 759 (by decide +kernel) (by decide +kernel)
theorem k_Mo_76 : Cond.fieldLink "FormatDeskModel" 76 "FormatDeskModel" "blank" "Z" ∈ ax_big := ax_in 760 (by decide +kernel) (by decide +kernel)
theorem k_Mo_79 : Cond.fieldLink "FormatDeskModel" 79 "FormatDeskModel" "hash" "Z" ∈ ax_big := ax_in 761 (by decide +kernel) (by decide +kernel)
theorem k_Mo_82 : Cond.fieldLink "FormatDeskModel" 82 "FormatDeskModel" "zero" "Z" ∈ ax_big := ax_in 762 (by decide +kernel) (by decide +kernel)
theorem k_Mo_85 : Cond.fieldLink "FormatDeskModel" 85 "FormatDeskModel" "widthTaken" "Z" ∈ ax_big := ax_in 763 (by decide +kernel) (by decide +kernel)
theorem k_Mo_88 : Cond.fieldLink "FormatDeskModel" 88 "FormatDeskModel" "precisionTaken" "Z" ∈ ax_big := ax_in 764 (by decide +kernel) (by decide +kernel)
theorem k_Mo_24 : Cond.fieldLink "FormatDeskModel" 24 "FormatDeskModel" "front" "[I" ∈ ax_big := ax_in 765 (by decide +kernel) (by decide +kernel)
theorem k_Mo_27 : Cond.fieldLink "FormatDeskModel" 27 "FormatDeskModel" "body" "[I" ∈ ax_big := ax_in 766 (by decide +kernel) (by decide +kernel)
theorem k_Mo_153 : Cond.fieldLink "FormatDeskModel" 153 "FormatDeskModel" "fronts" "I" ∈ ax_big := ax_in 767 (by decide +kernel) (by decide +kernel)
theorem k_Mo_156 : Cond.fieldLink "FormatDeskModel" 156 "FormatDeskModel" "size" "I" ∈ ax_big := ax_in 768 (by decide +kernel) (by decide +kernel)
theorem k_Mo_159 : Cond.fieldLink "FormatDeskModel" 159 "FormatDeskModel" "zeros" "Z" ∈ ax_big := ax_in 769 (by decide +kernel) (by decide +kernel)
theorem k_Mo_30 : Cond.fieldLink "FormatDeskModel" 30 "FormatDeskModel" "row" "[I" ∈ ax_big := ax_in 770 (by decide +kernel) (by decide +kernel)
theorem k_Mo_33 : Cond.fieldLink "FormatDeskModel" 33 "FormatDeskModel" "digits" "[I" ∈ ax_big := ax_in 771 (by decide +kernel) (by decide +kernel)
theorem k_Mo_36 : Cond.fieldLink "FormatDeskModel" 36 "FormatDeskModel" "other" "[I" ∈ ax_big := ax_in 772 (by decide +kernel) (by decide +kernel)
theorem k_Mo_191 : Cond.fieldLink "FormatDeskModel" 191 "FormatDeskModel" "count" "I" ∈ ax_big := ax_in 773 (by decide +kernel) (by decide +kernel)
theorem k_Mo_194 : Cond.fieldLink "FormatDeskModel" 194 "FormatDeskModel" "point" "I" ∈ ax_big := ax_in 774 (by decide +kernel) (by decide +kernel)
theorem k_La_46 : Cond.methodLink "FormatDeskLaw" 46 ⟨"FormatDeskModel", "thrown", "()I"⟩ ∈ ax_big := ax_in 837 (by decide +kernel) (by decide +kernel)
theorem k_La_45 : Cond.methodLink "FormatDeskLaw" 45 ⟨"FormatDeskModel", "text", "(J)I"⟩ ∈ ax_big := ax_in 841 (by decide +kernel) (by decide +kernel)
theorem k_Mo_42 : Cond.constantLong "FormatDeskModel" 42 (255 : Int64) ∈ ax_big := ax_in 845 (by decide +kernel) (by decide +kernel)
theorem k_Mo_47 : Cond.methodLink "FormatDeskModel" 47 ⟨"FormatDeskModel", "fails", "(ZI)Z"⟩ ∈ ax_big := ax_in 846 (by decide +kernel) (by decide +kernel)
theorem k_La_51 : Cond.methodLink "FormatDeskLaw" 51 ⟨"FormatDeskModel", "argument", "(J)I"⟩ ∈ ax_big := ax_in 850 (by decide +kernel) (by decide +kernel)
theorem k_La_55 : Cond.methodLink "FormatDeskLaw" 55 ⟨"FormatDeskModel", "clear", "()V"⟩ ∈ ax_big := ax_in 854 (by decide +kernel) (by decide +kernel)
theorem k_La_59 : Cond.methodLink "FormatDeskLaw" 59 ⟨"FormatDeskModel", "run", "()I"⟩ ∈ ax_big := ax_in 858 (by decide +kernel) (by decide +kernel)
theorem k_Mo_61 : Cond.methodLink "FormatDeskModel" 61 ⟨"FormatDeskModel", "in", "(III)Z"⟩ ∈ ax_big := ax_in 862 (by decide +kernel) (by decide +kernel)
theorem k_Mo_65 : Cond.methodLink "FormatDeskModel" 65 ⟨"FormatDeskModel", "bad", "(I)Z"⟩ ∈ ax_big := ax_in 865 (by decide +kernel) (by decide +kernel)
theorem k_Mo_125 : Cond.methodLink "FormatDeskModel" 125 ⟨"FormatDeskModel", "directive", "()Z"⟩ ∈ ax_big := ax_in 869 (by decide +kernel) (by decide +kernel)
theorem k_Mo_57 : Cond.methodLink "FormatDeskModel" 57 ⟨"FormatDeskModel", "c", "(I)I"⟩ ∈ ax_big := ax_in 873 (by decide +kernel) (by decide +kernel)
theorem k_Mo_97 : Cond.methodLink "FormatDeskModel" 97 ⟨"FormatDeskModel", "number", "()I"⟩ ∈ ax_big := ax_in 877 (by decide +kernel) (by decide +kernel)
theorem k_Mo_103 : Cond.methodLink "FormatDeskModel" 103 ⟨"java/lang/String", "length", "()I"⟩ ∈ ax_big := ax_in 882 (by decide +kernel) (by decide +kernel)
theorem k_Mo_108 : Cond.methodLink "FormatDeskModel" 108 ⟨"java/lang/String", "charAt", "(I)C"⟩ ∈ ax_big := ax_in 883 (by decide +kernel) (by decide +kernel)
theorem k_Mo_129 : Cond.methodLink "FormatDeskModel" 129 ⟨"FormatDeskModel", "give", "(I)Z"⟩ ∈ ax_big := ax_in 884 (by decide +kernel) (by decide +kernel)
theorem k_Mo_132 : Cond.methodLink "FormatDeskModel" 132 ⟨"FormatDeskModel", "next", "()J"⟩ ∈ ax_big := ax_in 888 (by decide +kernel) (by decide +kernel)
theorem k_Mo_136 : Cond.methodLink "FormatDeskModel" 136 ⟨"FormatDeskModel", "limited", "(J)I"⟩ ∈ ax_big := ax_in 892 (by decide +kernel) (by decide +kernel)
theorem k_Mo_115 : Cond.constantLong "FormatDeskModel" 115 (-200 : Int64) ∈ ax_big := ax_in 895 (by decide +kernel) (by decide +kernel)
theorem k_Mo_117 : Cond.constantLong "FormatDeskModel" 117 (200 : Int64) ∈ ax_big := ax_in 896 (by decide +kernel) (by decide +kernel)
theorem k_Mo_140 : Cond.methodLink "FormatDeskModel" 140 ⟨"java/lang/Math", "max", "(II)I"⟩ ∈ ax_big := ax_in 897 (by decide +kernel) (by decide +kernel)
theorem k_Mo_146 : Cond.methodLink "FormatDeskModel" 146 ⟨"FormatDeskModel", "piece", "(I)V"⟩ ∈ ax_big := ax_in 898 (by decide +kernel) (by decide +kernel)
theorem k_Mo_162 : Cond.methodLink "FormatDeskModel" 162 ⟨"FormatDeskModel", "add", "(I)V"⟩ ∈ ax_big := ax_in 902 (by decide +kernel) (by decide +kernel)
theorem k_Mo_165 : Cond.methodLink "FormatDeskModel" 165 ⟨"FormatDeskModel", "whole", "(IJ)V"⟩ ∈ ax_big := ax_in 906 (by decide +kernel) (by decide +kernel)
theorem k_Mo_172 : Cond.methodLink "FormatDeskModel" 172 ⟨"java/lang/Long", "remainderUnsigned", "(JJ)J"⟩ ∈ ax_big := ax_in 910 (by decide +kernel) (by decide +kernel)
theorem k_Lo_306 : Cond.constantLong "java/lang/Long" 306 (-1 : Int64) ∈ ax_big := ax_in 913 (by decide +kernel) (by decide +kernel)
theorem k_Mo_178 : Cond.methodLink "FormatDeskModel" 178 ⟨"java/lang/Long", "divideUnsigned", "(JJ)J"⟩ ∈ ax_big := ax_in 914 (by decide +kernel) (by decide +kernel)
theorem k_Mo_181 : Cond.methodLink "FormatDeskModel" 181 ⟨"FormatDeskModel", "sign", "(Z)V"⟩ ∈ ax_big := ax_in 917 (by decide +kernel) (by decide +kernel)
theorem k_Mo_185 : Cond.methodLink "FormatDeskModel" 185 ⟨"FormatDeskModel", "digit", "(IZ)I"⟩ ∈ ax_big := ax_in 921 (by decide +kernel) (by decide +kernel)
theorem k_Mo_169 : Cond.methodLink "FormatDeskModel" 169 ⟨"FormatDeskModel", "real", "(IJ)V"⟩ ∈ ax_big := ax_in 924 (by decide +kernel) (by decide +kernel)
theorem k_Mo_210 : Cond.constantLong "FormatDeskModel" 210 (4503599627370495 : Int64) ∈ ax_big := ax_in 928 (by decide +kernel) (by decide +kernel)
theorem k_Mo_226 : Cond.methodLink "FormatDeskModel" 226 ⟨"FormatDeskModel", "hexadecimal", "(JIZ)V"⟩ ∈ ax_big := ax_in 933 (by decide +kernel) (by decide +kernel)
theorem k_Mo_212 : Cond.constantLong "FormatDeskModel" 212 (4503599627370496 : Int64) ∈ ax_big := ax_in 937 (by decide +kernel) (by decide +kernel)
theorem k_Mo_214 : Cond.constantLong "FormatDeskModel" 214 (15 : Int64) ∈ ax_big := ax_in 938 (by decide +kernel) (by decide +kernel)
theorem k_Mo_216 : Cond.constantLong "FormatDeskModel" 216 (9223372036854775807 : Int64) ∈ ax_big := ax_in 939 (by decide +kernel) (by decide +kernel)
theorem k_Mo_230 : Cond.methodLink "FormatDeskModel" 230 ⟨"FormatDeskModel", "decimal", "(JI)V"⟩ ∈ ax_big := ax_in 940 (by decide +kernel) (by decide +kernel)
theorem k_Mo_189 : Cond.constantLong "FormatDeskModel" 189 (10 : Int64) ∈ ax_big := ax_in 944 (by decide +kernel) (by decide +kernel)
theorem k_Mo_203 : Cond.methodLink "FormatDeskModel" 203 ⟨"FormatDeskModel", "fixed", "(I)V"⟩ ∈ ax_big := ax_in 945 (by decide +kernel) (by decide +kernel)
theorem k_Mo_197 : Cond.methodLink "FormatDeskModel" 197 ⟨"FormatDeskModel", "cut", "(I)Z"⟩ ∈ ax_big := ax_in 949 (by decide +kernel) (by decide +kernel)
theorem k_Mo_206 : Cond.methodLink "FormatDeskModel" 206 ⟨"FormatDeskModel", "scientific", "(IZ)V"⟩ ∈ ax_big := ax_in 953 (by decide +kernel) (by decide +kernel)
theorem k_Mo_200 : Cond.methodLink "FormatDeskModel" 200 ⟨"FormatDeskModel", "exponent", "(I)I"⟩ ∈ ax_big := ax_in 957 (by decide +kernel) (by decide +kernel)
theorem k_Mo_234 : Cond.methodLink "FormatDeskModel" 234 ⟨"FormatDeskModel", "general", "(IZ)V"⟩ ∈ ax_big := ax_in 961 (by decide +kernel) (by decide +kernel)
theorem k_Mo_150 : Cond.methodLink "FormatDeskModel" 150 ⟨"FormatDeskModel", "pad", "()Z"⟩ ∈ ax_big := ax_in 965 (by decide +kernel) (by decide +kernel)
theorem k_La_63 : Cond.methodLink "FormatDeskLaw" 63 ⟨"FormatDeskModel", "wrong", "()I"⟩ ∈ ax_big := ax_in 969 (by decide +kernel) (by decide +kernel)
theorem k_La_67 : Cond.methodLink "FormatDeskLaw" 67 ⟨"FormatDeskModel", "letters", "(I)J"⟩ ∈ ax_big := ax_in 973 (by decide +kernel) (by decide +kernel)
theorem k_La_70 : Cond.methodLink "FormatDeskLaw" 70 ⟨"FormatDeskModel", "count", "(I)I"⟩ ∈ ax_big := ax_in 977 (by decide +kernel) (by decide +kernel)
theorem k_La_38 : Cond.constantLong "FormatDeskLaw" 38 (4294967295 : Int64) ∈ ax_big := ax_in 981 (by decide +kernel) (by decide +kernel)
theorem k_St_15 : Cond.fieldLink "java/lang/String" 15 "java/lang/String" "coder" "B" ∈ ax_big := ax_in 983 (by decide +kernel) (by decide +kernel)
theorem k_St_9 : Cond.fieldLink "java/lang/String" 9 "java/lang/String" "value" "[B" ∈ ax_big := ax_in 984 (by decide +kernel) (by decide +kernel)
def y_Fd_init : MethodName := ⟨"FormatDesk", "<init>", "()V"⟩
abbrev c_Fd_init : ByteArray := prog_1_method_1_code
theorem kc_Fd_init : Cond.code y_Fd_init c_Fd_init 1 none ∈ ax_big := ax_in 75 (by decide +kernel) (by decide +kernel)
theorem ki_Fd_init : Cond.instanceMethod y_Fd_init ∈ ax_big := ax_in 74 (by decide +kernel) (by decide +kernel)
def y_Fd_text : MethodName := ⟨"FormatDesk", "text", "(J)I"⟩
abbrev c_Fd_text : ByteArray := prog_1_method_2_code
theorem kc_Fd_text : Cond.code y_Fd_text c_Fd_text 4 (some FieldType.int) ∈ ax_big := ax_in 253 (by decide +kernel) (by decide +kernel)
theorem ki_Fd_text : Cond.instanceMethod y_Fd_text ∈ ax_big := ax_in 251 (by decide +kernel) (by decide +kernel)
theorem ks_Fd_text : Cond.selects "FormatDesk" y_Fd_text y_Fd_text ∈ ax_big := ax_in 252 (by decide +kernel) (by decide +kernel)
def y_Fd_argument : MethodName := ⟨"FormatDesk", "argument", "(J)I"⟩
abbrev c_Fd_argument : ByteArray := prog_1_method_3_code
theorem kc_Fd_argument : Cond.code y_Fd_argument c_Fd_argument 3 (some FieldType.int) ∈ ax_big := ax_in 333 (by decide +kernel) (by decide +kernel)
theorem ki_Fd_argument : Cond.instanceMethod y_Fd_argument ∈ ax_big := ax_in 331 (by decide +kernel) (by decide +kernel)
theorem ks_Fd_argument : Cond.selects "FormatDesk" y_Fd_argument y_Fd_argument ∈ ax_big := ax_in 332 (by decide +kernel) (by decide +kernel)
def y_Fd_clear : MethodName := ⟨"FormatDesk", "clear", "()V"⟩
abbrev c_Fd_clear : ByteArray := prog_1_method_4_code
theorem kc_Fd_clear : Cond.code y_Fd_clear c_Fd_clear 1 none ∈ ax_big := ax_in 241 (by decide +kernel) (by decide +kernel)
theorem ki_Fd_clear : Cond.instanceMethod y_Fd_clear ∈ ax_big := ax_in 239 (by decide +kernel) (by decide +kernel)
theorem ks_Fd_clear : Cond.selects "FormatDesk" y_Fd_clear y_Fd_clear ∈ ax_big := ax_in 240 (by decide +kernel) (by decide +kernel)
def y_Fd_run : MethodName := ⟨"FormatDesk", "run", "()I"⟩
abbrev c_Fd_run : ByteArray := prog_1_method_5_code
theorem kc_Fd_run : Cond.code y_Fd_run c_Fd_run 1 (some FieldType.int) ∈ ax_big := ax_in 342 (by decide +kernel) (by decide +kernel)
theorem ki_Fd_run : Cond.instanceMethod y_Fd_run ∈ ax_big := ax_in 340 (by decide +kernel) (by decide +kernel)
theorem ks_Fd_run : Cond.selects "FormatDesk" y_Fd_run y_Fd_run ∈ ax_big := ax_in 341 (by decide +kernel) (by decide +kernel)
def y_Fd_wrong : MethodName := ⟨"FormatDesk", "wrong", "()I"⟩
abbrev c_Fd_wrong : ByteArray := prog_1_method_6_code
theorem kc_Fd_wrong : Cond.code y_Fd_wrong c_Fd_wrong 1 (some FieldType.int) ∈ ax_big := ax_in 245 (by decide +kernel) (by decide +kernel)
theorem ki_Fd_wrong : Cond.instanceMethod y_Fd_wrong ∈ ax_big := ax_in 243 (by decide +kernel) (by decide +kernel)
theorem ks_Fd_wrong : Cond.selects "FormatDesk" y_Fd_wrong y_Fd_wrong ∈ ax_big := ax_in 244 (by decide +kernel) (by decide +kernel)
def y_Fd_letters : MethodName := ⟨"FormatDesk", "letters", "(I)J"⟩
abbrev c_Fd_letters : ByteArray := prog_1_method_7_code
theorem kc_Fd_letters : Cond.code y_Fd_letters c_Fd_letters 5 (some FieldType.long) ∈ ax_big := ax_in 731 (by decide +kernel) (by decide +kernel)
theorem ki_Fd_letters : Cond.instanceMethod y_Fd_letters ∈ ax_big := ax_in 729 (by decide +kernel) (by decide +kernel)
theorem ks_Fd_letters : Cond.selects "FormatDesk" y_Fd_letters y_Fd_letters ∈ ax_big := ax_in 730 (by decide +kernel) (by decide +kernel)
def y_Fd_count : MethodName := ⟨"FormatDesk", "count", "(I)I"⟩
abbrev c_Fd_count : ByteArray := prog_1_method_8_code
theorem kc_Fd_count : Cond.code y_Fd_count c_Fd_count 2 (some FieldType.int) ∈ ax_big := ax_in 738 (by decide +kernel) (by decide +kernel)
theorem ki_Fd_count : Cond.instanceMethod y_Fd_count ∈ ax_big := ax_in 736 (by decide +kernel) (by decide +kernel)
theorem ks_Fd_count : Cond.selects "FormatDesk" y_Fd_count y_Fd_count ∈ ax_big := ax_in 737 (by decide +kernel) (by decide +kernel)
def y_Fd_forgetLatestRun : MethodName := ⟨"FormatDesk", "forgetLatestRun", "()V"⟩
abbrev c_Fd_forgetLatestRun : ByteArray := prog_1_method_9_code
theorem kc_Fd_forgetLatestRun : Cond.code y_Fd_forgetLatestRun c_Fd_forgetLatestRun 1 none ∈ ax_big := ax_in 346 (by decide +kernel) (by decide +kernel)
theorem ki_Fd_forgetLatestRun : Cond.instanceMethod y_Fd_forgetLatestRun ∈ ax_big := ax_in 345 (by decide +kernel) (by decide +kernel)
theorem ks_Fd_forgetLatestRun : Cond.selects "FormatDesk" y_Fd_forgetLatestRun y_Fd_forgetLatestRun ∈ ax_big := ax_in 1 (by decide +kernel) (by decide +kernel)
def y_Fd_placeOfWrong : MethodName := ⟨"FormatDesk", "placeOfWrong", "()I"⟩
abbrev c_Fd_placeOfWrong : ByteArray := prog_1_method_10_code
theorem kc_Fd_placeOfWrong : Cond.code y_Fd_placeOfWrong c_Fd_placeOfWrong 3 (some FieldType.int) ∈ ax_big := ax_in 350 (by decide +kernel) (by decide +kernel)
theorem ki_Fd_placeOfWrong : Cond.instanceMethod y_Fd_placeOfWrong ∈ ax_big := ax_in 349 (by decide +kernel) (by decide +kernel)
theorem ks_Fd_placeOfWrong : Cond.selects "FormatDesk" y_Fd_placeOfWrong y_Fd_placeOfWrong ∈ ax_big := ax_in 2 (by decide +kernel) (by decide +kernel)
def y_Fd_putOutAll : MethodName := ⟨"FormatDesk", "putOutAll", "()Z"⟩
abbrev c_Fd_putOutAll : ByteArray := prog_1_method_11_code
theorem kc_Fd_putOutAll : Cond.code y_Fd_putOutAll c_Fd_putOutAll 3 (some FieldType.boolean) ∈ ax_big := ax_in 505 (by decide +kernel) (by decide +kernel)
theorem ki_Fd_putOutAll : Cond.instanceMethod y_Fd_putOutAll ∈ ax_big := ax_in 504 (by decide +kernel) (by decide +kernel)
theorem ks_Fd_putOutAll : Cond.selects "FormatDesk" y_Fd_putOutAll y_Fd_putOutAll ∈ ax_big := ax_in 10 (by decide +kernel) (by decide +kernel)
def y_Fd_takeStars : MethodName := ⟨"FormatDesk", "takeStars", "()V"⟩
abbrev c_Fd_takeStars : ByteArray := prog_1_method_12_code
theorem kc_Fd_takeStars : Cond.code y_Fd_takeStars c_Fd_takeStars 1 none ∈ ax_big := ax_in 509 (by decide +kernel) (by decide +kernel)
theorem ki_Fd_takeStars : Cond.instanceMethod y_Fd_takeStars ∈ ax_big := ax_in 508 (by decide +kernel) (by decide +kernel)
theorem ks_Fd_takeStars : Cond.selects "FormatDesk" y_Fd_takeStars y_Fd_takeStars ∈ ax_big := ax_in 11 (by decide +kernel) (by decide +kernel)
def y_Fd_takeForStar : MethodName := ⟨"FormatDesk", "takeForStar", "()I"⟩
abbrev c_Fd_takeForStar : ByteArray := prog_1_method_13_code
theorem kc_Fd_takeForStar : Cond.code y_Fd_takeForStar c_Fd_takeForStar 1 (some FieldType.int) ∈ ax_big := ax_in 513 (by decide +kernel) (by decide +kernel)
theorem ki_Fd_takeForStar : Cond.instanceMethod y_Fd_takeForStar ∈ ax_big := ax_in 512 (by decide +kernel) (by decide +kernel)
theorem ks_Fd_takeForStar : Cond.selects "FormatDesk" y_Fd_takeForStar y_Fd_takeForStar ∈ ax_big := ax_in 12 (by decide +kernel) (by decide +kernel)
def y_Fd_take : MethodName := ⟨"FormatDesk", "take", "()J"⟩
abbrev c_Fd_take : ByteArray := prog_1_method_14_code
theorem kc_Fd_take : Cond.code y_Fd_take c_Fd_take 3 (some FieldType.long) ∈ ax_big := ax_in 519 (by decide +kernel) (by decide +kernel)
theorem ki_Fd_take : Cond.instanceMethod y_Fd_take ∈ ax_big := ax_in 518 (by decide +kernel) (by decide +kernel)
theorem ks_Fd_take : Cond.selects "FormatDesk" y_Fd_take y_Fd_take ∈ ax_big := ax_in 13 (by decide +kernel) (by decide +kernel)
def y_Fd_putOutPiece : MethodName := ⟨"FormatDesk", "putOutPiece", "(LFormatDesk$Piece;)Z"⟩
abbrev c_Fd_putOutPiece : ByteArray := prog_1_method_15_code
theorem kc_Fd_putOutPiece : Cond.code y_Fd_putOutPiece c_Fd_putOutPiece 6 (some FieldType.boolean) ∈ ax_big := ax_in 701 (by decide +kernel) (by decide +kernel)
theorem ki_Fd_putOutPiece : Cond.instanceMethod y_Fd_putOutPiece ∈ ax_big := ax_in 700 (by decide +kernel) (by decide +kernel)
theorem ks_Fd_putOutPiece : Cond.selects "FormatDesk" y_Fd_putOutPiece y_Fd_putOutPiece ∈ ax_big := ax_in 28 (by decide +kernel) (by decide +kernel)
def y_Fd_putOut : MethodName := ⟨"FormatDesk", "putOut", "(I)Z"⟩
abbrev c_Fd_putOut : ByteArray := prog_1_method_16_code
theorem kc_Fd_putOut : Cond.code y_Fd_putOut c_Fd_putOut 2 (some FieldType.boolean) ∈ ax_big := ax_in 709 (by decide +kernel) (by decide +kernel)
theorem ki_Fd_putOut : Cond.instanceMethod y_Fd_putOut ∈ ax_big := ax_in 708 (by decide +kernel) (by decide +kernel)
theorem ks_Fd_putOut : Cond.selects "FormatDesk" y_Fd_putOut y_Fd_putOut ∈ ax_big := ax_in 29 (by decide +kernel) (by decide +kernel)
def y_Mo_init : MethodName := ⟨"FormatDeskModel", "<init>", "()V"⟩
abbrev c_Mo_init : ByteArray := prog_8_method_1_code
theorem kc_Mo_init : Cond.code y_Mo_init c_Mo_init 1 none ∈ ax_big := ax_in 743 (by decide +kernel) (by decide +kernel)
theorem ki_Mo_init : Cond.instanceMethod y_Mo_init ∈ ax_big := ax_in 742 (by decide +kernel) (by decide +kernel)
def y_Mo_thrown : MethodName := ⟨"FormatDeskModel", "thrown", "()I"⟩
abbrev c_Mo_thrown : ByteArray := prog_8_method_2_code
theorem kc_Mo_thrown : Cond.code y_Mo_thrown c_Mo_thrown 1 (some FieldType.int) ∈ ax_big := ax_in 840 (by decide +kernel) (by decide +kernel)
theorem ki_Mo_thrown : Cond.instanceMethod y_Mo_thrown ∈ ax_big := ax_in 838 (by decide +kernel) (by decide +kernel)
theorem ks_Mo_thrown : Cond.selects "FormatDeskModel" y_Mo_thrown y_Mo_thrown ∈ ax_big := ax_in 839 (by decide +kernel) (by decide +kernel)
def y_Mo_in : MethodName := ⟨"FormatDeskModel", "in", "(III)Z"⟩
abbrev c_Mo_in : ByteArray := prog_8_method_3_code
theorem kc_Mo_in : Cond.code y_Mo_in c_Mo_in 3 (some FieldType.boolean) ∈ ax_big := ax_in 864 (by decide +kernel) (by decide +kernel)
theorem kt_Mo_in : Cond.static y_Mo_in ∈ ax_big := ax_in 863 (by decide +kernel) (by decide +kernel)
def y_Mo_fails : MethodName := ⟨"FormatDeskModel", "fails", "(ZI)Z"⟩
abbrev c_Mo_fails : ByteArray := prog_8_method_4_code
theorem kc_Mo_fails : Cond.code y_Mo_fails c_Mo_fails 3 (some FieldType.boolean) ∈ ax_big := ax_in 849 (by decide +kernel) (by decide +kernel)
theorem ki_Mo_fails : Cond.instanceMethod y_Mo_fails ∈ ax_big := ax_in 848 (by decide +kernel) (by decide +kernel)
theorem ks_Mo_fails : Cond.selects "FormatDeskModel" y_Mo_fails y_Mo_fails ∈ ax_big := ax_in 30 (by decide +kernel) (by decide +kernel)
def y_Mo_text : MethodName := ⟨"FormatDeskModel", "text", "(J)I"⟩
abbrev c_Mo_text : ByteArray := prog_8_method_5_code
theorem kc_Mo_text : Cond.code y_Mo_text c_Mo_text 5 (some FieldType.int) ∈ ax_big := ax_in 844 (by decide +kernel) (by decide +kernel)
theorem ki_Mo_text : Cond.instanceMethod y_Mo_text ∈ ax_big := ax_in 842 (by decide +kernel) (by decide +kernel)
theorem ks_Mo_text : Cond.selects "FormatDeskModel" y_Mo_text y_Mo_text ∈ ax_big := ax_in 843 (by decide +kernel) (by decide +kernel)
def y_Mo_argument : MethodName := ⟨"FormatDeskModel", "argument", "(J)I"⟩
abbrev c_Mo_argument : ByteArray := prog_8_method_6_code
theorem kc_Mo_argument : Cond.code y_Mo_argument c_Mo_argument 3 (some FieldType.int) ∈ ax_big := ax_in 853 (by decide +kernel) (by decide +kernel)
theorem ki_Mo_argument : Cond.instanceMethod y_Mo_argument ∈ ax_big := ax_in 851 (by decide +kernel) (by decide +kernel)
theorem ks_Mo_argument : Cond.selects "FormatDeskModel" y_Mo_argument y_Mo_argument ∈ ax_big := ax_in 852 (by decide +kernel) (by decide +kernel)
def y_Mo_clear : MethodName := ⟨"FormatDeskModel", "clear", "()V"⟩
abbrev c_Mo_clear : ByteArray := prog_8_method_7_code
theorem kc_Mo_clear : Cond.code y_Mo_clear c_Mo_clear 1 none ∈ ax_big := ax_in 857 (by decide +kernel) (by decide +kernel)
theorem ki_Mo_clear : Cond.instanceMethod y_Mo_clear ∈ ax_big := ax_in 855 (by decide +kernel) (by decide +kernel)
theorem ks_Mo_clear : Cond.selects "FormatDeskModel" y_Mo_clear y_Mo_clear ∈ ax_big := ax_in 856 (by decide +kernel) (by decide +kernel)
def y_Mo_c : MethodName := ⟨"FormatDeskModel", "c", "(I)I"⟩
abbrev c_Mo_c : ByteArray := prog_8_method_8_code
theorem kc_Mo_c : Cond.code y_Mo_c c_Mo_c 2 (some FieldType.int) ∈ ax_big := ax_in 876 (by decide +kernel) (by decide +kernel)
theorem ki_Mo_c : Cond.instanceMethod y_Mo_c ∈ ax_big := ax_in 875 (by decide +kernel) (by decide +kernel)
theorem ks_Mo_c : Cond.selects "FormatDeskModel" y_Mo_c y_Mo_c ∈ ax_big := ax_in 33 (by decide +kernel) (by decide +kernel)
def y_Mo_bad : MethodName := ⟨"FormatDeskModel", "bad", "(I)Z"⟩
abbrev c_Mo_bad : ByteArray := prog_8_method_9_code
theorem kc_Mo_bad : Cond.code y_Mo_bad c_Mo_bad 2 (some FieldType.boolean) ∈ ax_big := ax_in 868 (by decide +kernel) (by decide +kernel)
theorem ki_Mo_bad : Cond.instanceMethod y_Mo_bad ∈ ax_big := ax_in 867 (by decide +kernel) (by decide +kernel)
theorem ks_Mo_bad : Cond.selects "FormatDeskModel" y_Mo_bad y_Mo_bad ∈ ax_big := ax_in 31 (by decide +kernel) (by decide +kernel)
def y_Mo_number : MethodName := ⟨"FormatDeskModel", "number", "()I"⟩
abbrev c_Mo_number : ByteArray := prog_8_method_10_code
theorem kc_Mo_number : Cond.code y_Mo_number c_Mo_number 3 (some FieldType.int) ∈ ax_big := ax_in 880 (by decide +kernel) (by decide +kernel)
theorem ki_Mo_number : Cond.instanceMethod y_Mo_number ∈ ax_big := ax_in 879 (by decide +kernel) (by decide +kernel)
theorem ks_Mo_number : Cond.selects "FormatDeskModel" y_Mo_number y_Mo_number ∈ ax_big := ax_in 34 (by decide +kernel) (by decide +kernel)
def y_Mo_directive : MethodName := ⟨"FormatDeskModel", "directive", "()Z"⟩
abbrev c_Mo_directive : ByteArray := prog_8_method_11_code
theorem kc_Mo_directive : Cond.code y_Mo_directive c_Mo_directive 3 (some FieldType.boolean) ∈ ax_big := ax_in 872 (by decide +kernel) (by decide +kernel)
theorem ki_Mo_directive : Cond.instanceMethod y_Mo_directive ∈ ax_big := ax_in 871 (by decide +kernel) (by decide +kernel)
theorem ks_Mo_directive : Cond.selects "FormatDeskModel" y_Mo_directive y_Mo_directive ∈ ax_big := ax_in 32 (by decide +kernel) (by decide +kernel)
def y_Mo_next : MethodName := ⟨"FormatDeskModel", "next", "()J"⟩
abbrev c_Mo_next : ByteArray := prog_8_method_12_code
theorem kc_Mo_next : Cond.code y_Mo_next c_Mo_next 1 (some FieldType.long) ∈ ax_big := ax_in 891 (by decide +kernel) (by decide +kernel)
theorem ki_Mo_next : Cond.instanceMethod y_Mo_next ∈ ax_big := ax_in 890 (by decide +kernel) (by decide +kernel)
theorem ks_Mo_next : Cond.selects "FormatDeskModel" y_Mo_next y_Mo_next ∈ ax_big := ax_in 36 (by decide +kernel) (by decide +kernel)
def y_Mo_limited : MethodName := ⟨"FormatDeskModel", "limited", "(J)I"⟩
abbrev c_Mo_limited : ByteArray := prog_8_method_13_code
theorem kc_Mo_limited : Cond.code y_Mo_limited c_Mo_limited 2 (some FieldType.int) ∈ ax_big := ax_in 894 (by decide +kernel) (by decide +kernel)
theorem kt_Mo_limited : Cond.static y_Mo_limited ∈ ax_big := ax_in 893 (by decide +kernel) (by decide +kernel)
def y_Mo_run : MethodName := ⟨"FormatDeskModel", "run", "()I"⟩
abbrev c_Mo_run : ByteArray := prog_8_method_14_code
theorem kc_Mo_run : Cond.code y_Mo_run c_Mo_run 3 (some FieldType.int) ∈ ax_big := ax_in 861 (by decide +kernel) (by decide +kernel)
theorem ki_Mo_run : Cond.instanceMethod y_Mo_run ∈ ax_big := ax_in 859 (by decide +kernel) (by decide +kernel)
theorem ks_Mo_run : Cond.selects "FormatDeskModel" y_Mo_run y_Mo_run ∈ ax_big := ax_in 860 (by decide +kernel) (by decide +kernel)
def y_Mo_give : MethodName := ⟨"FormatDeskModel", "give", "(I)Z"⟩
abbrev c_Mo_give : ByteArray := prog_8_method_15_code
theorem kc_Mo_give : Cond.code y_Mo_give c_Mo_give 2 (some FieldType.boolean) ∈ ax_big := ax_in 887 (by decide +kernel) (by decide +kernel)
theorem ki_Mo_give : Cond.instanceMethod y_Mo_give ∈ ax_big := ax_in 886 (by decide +kernel) (by decide +kernel)
theorem ks_Mo_give : Cond.selects "FormatDeskModel" y_Mo_give y_Mo_give ∈ ax_big := ax_in 35 (by decide +kernel) (by decide +kernel)
def y_Mo_pad : MethodName := ⟨"FormatDeskModel", "pad", "()Z"⟩
abbrev c_Mo_pad : ByteArray := prog_8_method_16_code
theorem kc_Mo_pad : Cond.code y_Mo_pad c_Mo_pad 3 (some FieldType.boolean) ∈ ax_big := ax_in 968 (by decide +kernel) (by decide +kernel)
theorem ki_Mo_pad : Cond.instanceMethod y_Mo_pad ∈ ax_big := ax_in 967 (by decide +kernel) (by decide +kernel)
theorem ks_Mo_pad : Cond.selects "FormatDeskModel" y_Mo_pad y_Mo_pad ∈ ax_big := ax_in 49 (by decide +kernel) (by decide +kernel)
def y_Mo_add : MethodName := ⟨"FormatDeskModel", "add", "(I)V"⟩
abbrev c_Mo_add : ByteArray := prog_8_method_17_code
theorem kc_Mo_add : Cond.code y_Mo_add c_Mo_add 2 none ∈ ax_big := ax_in 905 (by decide +kernel) (by decide +kernel)
theorem ki_Mo_add : Cond.instanceMethod y_Mo_add ∈ ax_big := ax_in 904 (by decide +kernel) (by decide +kernel)
theorem ks_Mo_add : Cond.selects "FormatDeskModel" y_Mo_add y_Mo_add ∈ ax_big := ax_in 38 (by decide +kernel) (by decide +kernel)
def y_Mo_piece : MethodName := ⟨"FormatDeskModel", "piece", "(I)V"⟩
abbrev c_Mo_piece : ByteArray := prog_8_method_18_code
theorem kc_Mo_piece : Cond.code y_Mo_piece c_Mo_piece 5 none ∈ ax_big := ax_in 901 (by decide +kernel) (by decide +kernel)
theorem ki_Mo_piece : Cond.instanceMethod y_Mo_piece ∈ ax_big := ax_in 900 (by decide +kernel) (by decide +kernel)
theorem ks_Mo_piece : Cond.selects "FormatDeskModel" y_Mo_piece y_Mo_piece ∈ ax_big := ax_in 37 (by decide +kernel) (by decide +kernel)
def y_Mo_sign : MethodName := ⟨"FormatDeskModel", "sign", "(Z)V"⟩
abbrev c_Mo_sign : ByteArray := prog_8_method_19_code
theorem kc_Mo_sign : Cond.code y_Mo_sign c_Mo_sign 2 none ∈ ax_big := ax_in 920 (by decide +kernel) (by decide +kernel)
theorem ki_Mo_sign : Cond.instanceMethod y_Mo_sign ∈ ax_big := ax_in 919 (by decide +kernel) (by decide +kernel)
theorem ks_Mo_sign : Cond.selects "FormatDeskModel" y_Mo_sign y_Mo_sign ∈ ax_big := ax_in 40 (by decide +kernel) (by decide +kernel)
def y_Mo_digit : MethodName := ⟨"FormatDeskModel", "digit", "(IZ)I"⟩
abbrev c_Mo_digit : ByteArray := prog_8_method_20_code
theorem kc_Mo_digit : Cond.code y_Mo_digit c_Mo_digit 2 (some FieldType.int) ∈ ax_big := ax_in 923 (by decide +kernel) (by decide +kernel)
theorem kt_Mo_digit : Cond.static y_Mo_digit ∈ ax_big := ax_in 922 (by decide +kernel) (by decide +kernel)
def y_Mo_whole : MethodName := ⟨"FormatDeskModel", "whole", "(IJ)V"⟩
abbrev c_Mo_whole : ByteArray := prog_8_method_21_code
theorem kc_Mo_whole : Cond.code y_Mo_whole c_Mo_whole 12 none ∈ ax_big := ax_in 909 (by decide +kernel) (by decide +kernel)
theorem ki_Mo_whole : Cond.instanceMethod y_Mo_whole ∈ ax_big := ax_in 908 (by decide +kernel) (by decide +kernel)
theorem ks_Mo_whole : Cond.selects "FormatDeskModel" y_Mo_whole y_Mo_whole ∈ ax_big := ax_in 39 (by decide +kernel) (by decide +kernel)
def y_Mo_decimal : MethodName := ⟨"FormatDeskModel", "decimal", "(JI)V"⟩
abbrev c_Mo_decimal : ByteArray := prog_8_method_22_code
theorem kc_Mo_decimal : Cond.code y_Mo_decimal c_Mo_decimal 11 none ∈ ax_big := ax_in 943 (by decide +kernel) (by decide +kernel)
theorem ki_Mo_decimal : Cond.instanceMethod y_Mo_decimal ∈ ax_big := ax_in 942 (by decide +kernel) (by decide +kernel)
theorem ks_Mo_decimal : Cond.selects "FormatDeskModel" y_Mo_decimal y_Mo_decimal ∈ ax_big := ax_in 43 (by decide +kernel) (by decide +kernel)
def y_Mo_cut : MethodName := ⟨"FormatDeskModel", "cut", "(I)Z"⟩
abbrev c_Mo_cut : ByteArray := prog_8_method_23_code
theorem kc_Mo_cut : Cond.code y_Mo_cut c_Mo_cut 7 (some FieldType.boolean) ∈ ax_big := ax_in 952 (by decide +kernel) (by decide +kernel)
theorem ki_Mo_cut : Cond.instanceMethod y_Mo_cut ∈ ax_big := ax_in 951 (by decide +kernel) (by decide +kernel)
theorem ks_Mo_cut : Cond.selects "FormatDeskModel" y_Mo_cut y_Mo_cut ∈ ax_big := ax_in 45 (by decide +kernel) (by decide +kernel)
def y_Mo_fixed : MethodName := ⟨"FormatDeskModel", "fixed", "(I)V"⟩
abbrev c_Mo_fixed : ByteArray := prog_8_method_24_code
theorem kc_Mo_fixed : Cond.code y_Mo_fixed c_Mo_fixed 8 none ∈ ax_big := ax_in 948 (by decide +kernel) (by decide +kernel)
theorem ki_Mo_fixed : Cond.instanceMethod y_Mo_fixed ∈ ax_big := ax_in 947 (by decide +kernel) (by decide +kernel)
theorem ks_Mo_fixed : Cond.selects "FormatDeskModel" y_Mo_fixed y_Mo_fixed ∈ ax_big := ax_in 44 (by decide +kernel) (by decide +kernel)
def y_Mo_exponent : MethodName := ⟨"FormatDeskModel", "exponent", "(I)I"⟩
abbrev c_Mo_exponent : ByteArray := prog_8_method_25_code
theorem kc_Mo_exponent : Cond.code y_Mo_exponent c_Mo_exponent 3 (some FieldType.int) ∈ ax_big := ax_in 960 (by decide +kernel) (by decide +kernel)
theorem ki_Mo_exponent : Cond.instanceMethod y_Mo_exponent ∈ ax_big := ax_in 959 (by decide +kernel) (by decide +kernel)
theorem ks_Mo_exponent : Cond.selects "FormatDeskModel" y_Mo_exponent y_Mo_exponent ∈ ax_big := ax_in 47 (by decide +kernel) (by decide +kernel)
def y_Mo_scientific : MethodName := ⟨"FormatDeskModel", "scientific", "(IZ)V"⟩
abbrev c_Mo_scientific : ByteArray := prog_8_method_26_code
theorem kc_Mo_scientific : Cond.code y_Mo_scientific c_Mo_scientific 5 none ∈ ax_big := ax_in 956 (by decide +kernel) (by decide +kernel)
theorem ki_Mo_scientific : Cond.instanceMethod y_Mo_scientific ∈ ax_big := ax_in 955 (by decide +kernel) (by decide +kernel)
theorem ks_Mo_scientific : Cond.selects "FormatDeskModel" y_Mo_scientific y_Mo_scientific ∈ ax_big := ax_in 46 (by decide +kernel) (by decide +kernel)
def y_Mo_general : MethodName := ⟨"FormatDeskModel", "general", "(IZ)V"⟩
abbrev c_Mo_general : ByteArray := prog_8_method_27_code
theorem kc_Mo_general : Cond.code y_Mo_general c_Mo_general 10 none ∈ ax_big := ax_in 964 (by decide +kernel) (by decide +kernel)
theorem ki_Mo_general : Cond.instanceMethod y_Mo_general ∈ ax_big := ax_in 963 (by decide +kernel) (by decide +kernel)
theorem ks_Mo_general : Cond.selects "FormatDeskModel" y_Mo_general y_Mo_general ∈ ax_big := ax_in 48 (by decide +kernel) (by decide +kernel)
def y_Mo_hexadecimal : MethodName := ⟨"FormatDeskModel", "hexadecimal", "(JIZ)V"⟩
abbrev c_Mo_hexadecimal : ByteArray := prog_8_method_28_code
theorem kc_Mo_hexadecimal : Cond.code y_Mo_hexadecimal c_Mo_hexadecimal 14 none ∈ ax_big := ax_in 936 (by decide +kernel) (by decide +kernel)
theorem ki_Mo_hexadecimal : Cond.instanceMethod y_Mo_hexadecimal ∈ ax_big := ax_in 935 (by decide +kernel) (by decide +kernel)
theorem ks_Mo_hexadecimal : Cond.selects "FormatDeskModel" y_Mo_hexadecimal y_Mo_hexadecimal ∈ ax_big := ax_in 42 (by decide +kernel) (by decide +kernel)
def y_Mo_real : MethodName := ⟨"FormatDeskModel", "real", "(IJ)V"⟩
abbrev c_Mo_real : ByteArray := prog_8_method_29_code
theorem kc_Mo_real : Cond.code y_Mo_real c_Mo_real 11 none ∈ ax_big := ax_in 927 (by decide +kernel) (by decide +kernel)
theorem ki_Mo_real : Cond.instanceMethod y_Mo_real ∈ ax_big := ax_in 926 (by decide +kernel) (by decide +kernel)
theorem ks_Mo_real : Cond.selects "FormatDeskModel" y_Mo_real y_Mo_real ∈ ax_big := ax_in 41 (by decide +kernel) (by decide +kernel)
def y_Mo_wrong : MethodName := ⟨"FormatDeskModel", "wrong", "()I"⟩
abbrev c_Mo_wrong : ByteArray := prog_8_method_30_code
theorem kc_Mo_wrong : Cond.code y_Mo_wrong c_Mo_wrong 1 (some FieldType.int) ∈ ax_big := ax_in 972 (by decide +kernel) (by decide +kernel)
theorem ki_Mo_wrong : Cond.instanceMethod y_Mo_wrong ∈ ax_big := ax_in 970 (by decide +kernel) (by decide +kernel)
theorem ks_Mo_wrong : Cond.selects "FormatDeskModel" y_Mo_wrong y_Mo_wrong ∈ ax_big := ax_in 971 (by decide +kernel) (by decide +kernel)
def y_Mo_letters : MethodName := ⟨"FormatDeskModel", "letters", "(I)J"⟩
abbrev c_Mo_letters : ByteArray := prog_8_method_31_code
theorem kc_Mo_letters : Cond.code y_Mo_letters c_Mo_letters 5 (some FieldType.long) ∈ ax_big := ax_in 976 (by decide +kernel) (by decide +kernel)
theorem ki_Mo_letters : Cond.instanceMethod y_Mo_letters ∈ ax_big := ax_in 974 (by decide +kernel) (by decide +kernel)
theorem ks_Mo_letters : Cond.selects "FormatDeskModel" y_Mo_letters y_Mo_letters ∈ ax_big := ax_in 975 (by decide +kernel) (by decide +kernel)
def y_Mo_count : MethodName := ⟨"FormatDeskModel", "count", "(I)I"⟩
abbrev c_Mo_count : ByteArray := prog_8_method_32_code
theorem kc_Mo_count : Cond.code y_Mo_count c_Mo_count 2 (some FieldType.int) ∈ ax_big := ax_in 980 (by decide +kernel) (by decide +kernel)
theorem ki_Mo_count : Cond.instanceMethod y_Mo_count ∈ ax_big := ax_in 978 (by decide +kernel) (by decide +kernel)
theorem ks_Mo_count : Cond.selects "FormatDeskModel" y_Mo_count y_Mo_count ∈ ax_big := ax_in 979 (by decide +kernel) (by decide +kernel)
def y_De_init : MethodName := ⟨"FormatDesk$Decimal", "<init>", "()V"⟩
abbrev c_De_init : ByteArray := prog_2_method_1_code
theorem kc_De_init : Cond.code y_De_init c_De_init 1 none ∈ ax_big := ax_in 180 (by decide +kernel) (by decide +kernel)
theorem ki_De_init : Cond.instanceMethod y_De_init ∈ ax_big := ax_in 179 (by decide +kernel) (by decide +kernel)
def y_De_become : MethodName := ⟨"FormatDesk$Decimal", "become", "(JI)V"⟩
abbrev c_De_become : ByteArray := prog_2_method_2_code
theorem kc_De_become : Cond.code y_De_become c_De_become 5 none ∈ ax_big := ax_in 646 (by decide +kernel) (by decide +kernel)
theorem ki_De_become : Cond.instanceMethod y_De_become ∈ ax_big := ax_in 644 (by decide +kernel) (by decide +kernel)
theorem ks_De_become : Cond.selects "FormatDesk$Decimal" y_De_become y_De_become ∈ ax_big := ax_in 645 (by decide +kernel) (by decide +kernel)
def y_De_becomeZero : MethodName := ⟨"FormatDesk$Decimal", "becomeZero", "()V"⟩
abbrev c_De_becomeZero : ByteArray := prog_2_method_3_code
theorem kc_De_becomeZero : Cond.code y_De_becomeZero c_De_becomeZero 1 none ∈ ax_big := ax_in 650 (by decide +kernel) (by decide +kernel)
theorem ki_De_becomeZero : Cond.instanceMethod y_De_becomeZero ∈ ax_big := ax_in 649 (by decide +kernel) (by decide +kernel)
theorem ks_De_becomeZero : Cond.selects "FormatDesk$Decimal" y_De_becomeZero y_De_becomeZero ∈ ax_big := ax_in 22 (by decide +kernel) (by decide +kernel)
def y_De_multiply : MethodName := ⟨"FormatDesk$Decimal", "multiply", "(J)V"⟩
abbrev c_De_multiply : ByteArray := prog_2_method_4_code
theorem kc_De_multiply : Cond.code y_De_multiply c_De_multiply 8 none ∈ ax_big := ax_in 656 (by decide +kernel) (by decide +kernel)
theorem ki_De_multiply : Cond.instanceMethod y_De_multiply ∈ ax_big := ax_in 655 (by decide +kernel) (by decide +kernel)
theorem ks_De_multiply : Cond.selects "FormatDesk$Decimal" y_De_multiply y_De_multiply ∈ ax_big := ax_in 23 (by decide +kernel) (by decide +kernel)
def y_De_spell : MethodName := ⟨"FormatDesk$Decimal", "spell", "()V"⟩
abbrev c_De_spell : ByteArray := prog_2_method_5_code
theorem kc_De_spell : Cond.code y_De_spell c_De_spell 4 none ∈ ax_big := ax_in 662 (by decide +kernel) (by decide +kernel)
theorem ki_De_spell : Cond.instanceMethod y_De_spell ∈ ax_big := ax_in 661 (by decide +kernel) (by decide +kernel)
theorem ks_De_spell : Cond.selects "FormatDesk$Decimal" y_De_spell y_De_spell ∈ ax_big := ax_in 24 (by decide +kernel) (by decide +kernel)
def y_De_digitAt : MethodName := ⟨"FormatDesk$Decimal", "digitAt", "(I)I"⟩
abbrev c_De_digitAt : ByteArray := prog_2_method_6_code
theorem kc_De_digitAt : Cond.code y_De_digitAt c_De_digitAt 2 (some FieldType.int) ∈ ax_big := ax_in 682 (by decide +kernel) (by decide +kernel)
theorem ki_De_digitAt : Cond.instanceMethod y_De_digitAt ∈ ax_big := ax_in 680 (by decide +kernel) (by decide +kernel)
theorem ks_De_digitAt : Cond.selects "FormatDesk$Decimal" y_De_digitAt y_De_digitAt ∈ ax_big := ax_in 681 (by decide +kernel) (by decide +kernel)
def y_De_neededFrom : MethodName := ⟨"FormatDesk$Decimal", "neededFrom", "(I)I"⟩
abbrev c_De_neededFrom : ByteArray := prog_2_method_7_code
theorem kc_De_neededFrom : Cond.code y_De_neededFrom c_De_neededFrom 3 (some FieldType.int) ∈ ax_big := ax_in 678 (by decide +kernel) (by decide +kernel)
theorem ki_De_neededFrom : Cond.instanceMethod y_De_neededFrom ∈ ax_big := ax_in 676 (by decide +kernel) (by decide +kernel)
theorem ks_De_neededFrom : Cond.selects "FormatDesk$Decimal" y_De_neededFrom y_De_neededFrom ∈ ax_big := ax_in 677 (by decide +kernel) (by decide +kernel)
def y_De_round : MethodName := ⟨"FormatDesk$Decimal", "round", "(I)V"⟩
abbrev c_De_round : ByteArray := prog_2_method_8_code
theorem kc_De_round : Cond.code y_De_round c_De_round 5 none ∈ ax_big := ax_in 674 (by decide +kernel) (by decide +kernel)
theorem ki_De_round : Cond.instanceMethod y_De_round ∈ ax_big := ax_in 672 (by decide +kernel) (by decide +kernel)
theorem ks_De_round : Cond.selects "FormatDesk$Decimal" y_De_round y_De_round ∈ ax_big := ax_in 673 (by decide +kernel) (by decide +kernel)
def y_De_addOneAtTheEnd : MethodName := ⟨"FormatDesk$Decimal", "addOneAtTheEnd", "()V"⟩
abbrev c_De_addOneAtTheEnd : ByteArray := prog_2_method_9_code
theorem kc_De_addOneAtTheEnd : Cond.code y_De_addOneAtTheEnd c_De_addOneAtTheEnd 2 none ∈ ax_big := ax_in 686 (by decide +kernel) (by decide +kernel)
theorem ki_De_addOneAtTheEnd : Cond.instanceMethod y_De_addOneAtTheEnd ∈ ax_big := ax_in 685 (by decide +kernel) (by decide +kernel)
theorem ks_De_addOneAtTheEnd : Cond.selects "FormatDesk$Decimal" y_De_addOneAtTheEnd y_De_addOneAtTheEnd ∈ ax_big := ax_in 26 (by decide +kernel) (by decide +kernel)
def y_Di_init : MethodName := ⟨"FormatDesk$Directive", "<init>", "()V"⟩
abbrev c_Di_init : ByteArray := prog_3_method_1_code
theorem kc_Di_init : Cond.code y_Di_init c_Di_init 1 none ∈ ax_big := ax_in 99 (by decide +kernel) (by decide +kernel)
theorem ki_Di_init : Cond.instanceMethod y_Di_init ∈ ax_big := ax_in 98 (by decide +kernel) (by decide +kernel)
def y_Di_read : MethodName := ⟨"FormatDesk$Directive", "read", "(LFormatDesk$Format;I)Z"⟩
abbrev c_Di_read : ByteArray := prog_3_method_2_code
theorem kc_Di_read : Cond.code y_Di_read c_Di_read 3 (some FieldType.boolean) ∈ ax_big := ax_in 366 (by decide +kernel) (by decide +kernel)
theorem ki_Di_read : Cond.instanceMethod y_Di_read ∈ ax_big := ax_in 364 (by decide +kernel) (by decide +kernel)
theorem ks_Di_read : Cond.selects "FormatDesk$Directive" y_Di_read y_Di_read ∈ ax_big := ax_in 365 (by decide +kernel) (by decide +kernel)
def y_Di_forget : MethodName := ⟨"FormatDesk$Directive", "forget", "()V"⟩
abbrev c_Di_forget : ByteArray := prog_3_method_3_code
theorem kc_Di_forget : Cond.code y_Di_forget c_Di_forget 1 none ∈ ax_big := ax_in 370 (by decide +kernel) (by decide +kernel)
theorem ki_Di_forget : Cond.instanceMethod y_Di_forget ∈ ax_big := ax_in 369 (by decide +kernel) (by decide +kernel)
theorem ks_Di_forget : Cond.selects "FormatDesk$Directive" y_Di_forget y_Di_forget ∈ ax_big := ax_in 3 (by decide +kernel) (by decide +kernel)
def y_Di_readFlags : MethodName := ⟨"FormatDesk$Directive", "readFlags", "(LFormatDesk$Format;)V"⟩
abbrev c_Di_readFlags : ByteArray := prog_3_method_4_code
theorem kc_Di_readFlags : Cond.code y_Di_readFlags c_Di_readFlags 2 none ∈ ax_big := ax_in 374 (by decide +kernel) (by decide +kernel)
theorem ki_Di_readFlags : Cond.instanceMethod y_Di_readFlags ∈ ax_big := ax_in 373 (by decide +kernel) (by decide +kernel)
theorem ks_Di_readFlags : Cond.selects "FormatDesk$Directive" y_Di_readFlags y_Di_readFlags ∈ ax_big := ax_in 4 (by decide +kernel) (by decide +kernel)
def y_Di_readWidth : MethodName := ⟨"FormatDesk$Directive", "readWidth", "(LFormatDesk$Format;)Z"⟩
abbrev c_Di_readWidth : ByteArray := prog_3_method_5_code
theorem kc_Di_readWidth : Cond.code y_Di_readWidth c_Di_readWidth 2 (some FieldType.boolean) ∈ ax_big := ax_in 379 (by decide +kernel) (by decide +kernel)
theorem ki_Di_readWidth : Cond.instanceMethod y_Di_readWidth ∈ ax_big := ax_in 378 (by decide +kernel) (by decide +kernel)
theorem ks_Di_readWidth : Cond.selects "FormatDesk$Directive" y_Di_readWidth y_Di_readWidth ∈ ax_big := ax_in 5 (by decide +kernel) (by decide +kernel)
def y_Di_readPrecision : MethodName := ⟨"FormatDesk$Directive", "readPrecision", "(LFormatDesk$Format;)Z"⟩
abbrev c_Di_readPrecision : ByteArray := prog_3_method_6_code
theorem kc_Di_readPrecision : Cond.code y_Di_readPrecision c_Di_readPrecision 2 (some FieldType.boolean) ∈ ax_big := ax_in 394 (by decide +kernel) (by decide +kernel)
theorem ki_Di_readPrecision : Cond.instanceMethod y_Di_readPrecision ∈ ax_big := ax_in 393 (by decide +kernel) (by decide +kernel)
theorem ks_Di_readPrecision : Cond.selects "FormatDesk$Directive" y_Di_readPrecision y_Di_readPrecision ∈ ax_big := ax_in 8 (by decide +kernel) (by decide +kernel)
def y_Di_readIf : MethodName := ⟨"FormatDesk$Directive", "readIf", "(LFormatDesk$Format;I)Z"⟩
abbrev c_Di_readIf : ByteArray := prog_3_method_7_code
theorem kc_Di_readIf : Cond.code y_Di_readIf c_Di_readIf 3 (some FieldType.boolean) ∈ ax_big := ax_in 383 (by decide +kernel) (by decide +kernel)
theorem ki_Di_readIf : Cond.instanceMethod y_Di_readIf ∈ ax_big := ax_in 382 (by decide +kernel) (by decide +kernel)
theorem ks_Di_readIf : Cond.selects "FormatDesk$Directive" y_Di_readIf y_Di_readIf ∈ ax_big := ax_in 6 (by decide +kernel) (by decide +kernel)
def y_Di_readDigits : MethodName := ⟨"FormatDesk$Directive", "readDigits", "(LFormatDesk$Format;)I"⟩
abbrev c_Di_readDigits : ByteArray := prog_3_method_8_code
theorem kc_Di_readDigits : Cond.code y_Di_readDigits c_Di_readDigits 5 (some FieldType.int) ∈ ax_big := ax_in 387 (by decide +kernel) (by decide +kernel)
theorem ki_Di_readDigits : Cond.instanceMethod y_Di_readDigits ∈ ax_big := ax_in 386 (by decide +kernel) (by decide +kernel)
theorem ks_Di_readDigits : Cond.selects "FormatDesk$Directive" y_Di_readDigits y_Di_readDigits ∈ ax_big := ax_in 7 (by decide +kernel) (by decide +kernel)
def y_Di_isDigit : MethodName := ⟨"FormatDesk$Directive", "isDigit", "(I)Z"⟩
abbrev c_Di_isDigit : ByteArray := prog_3_method_9_code
theorem kc_Di_isDigit : Cond.code y_Di_isDigit c_Di_isDigit 1 (some FieldType.boolean) ∈ ax_big := ax_in 390 (by decide +kernel) (by decide +kernel)
theorem kt_Di_isDigit : Cond.static y_Di_isDigit ∈ ax_big := ax_in 389 (by decide +kernel) (by decide +kernel)
def y_Di_readKind : MethodName := ⟨"FormatDesk$Directive", "readKind", "(LFormatDesk$Format;)Z"⟩
abbrev c_Di_readKind : ByteArray := prog_3_method_10_code
theorem kc_Di_readKind : Cond.code y_Di_readKind c_Di_readKind 3 (some FieldType.boolean) ∈ ax_big := ax_in 398 (by decide +kernel) (by decide +kernel)
theorem ki_Di_readKind : Cond.instanceMethod y_Di_readKind ∈ ax_big := ax_in 397 (by decide +kernel) (by decide +kernel)
theorem ks_Di_readKind : Cond.selects "FormatDesk$Directive" y_Di_readKind y_Di_readKind ∈ ax_big := ax_in 9 (by decide +kernel) (by decide +kernel)
def y_Di_useTakenWidth : MethodName := ⟨"FormatDesk$Directive", "useTakenWidth", "(I)V"⟩
abbrev c_Di_useTakenWidth : ByteArray := prog_3_method_11_code
theorem kc_Di_useTakenWidth : Cond.code y_Di_useTakenWidth c_Di_useTakenWidth 2 none ∈ ax_big := ax_in 529 (by decide +kernel) (by decide +kernel)
theorem ki_Di_useTakenWidth : Cond.instanceMethod y_Di_useTakenWidth ∈ ax_big := ax_in 527 (by decide +kernel) (by decide +kernel)
theorem ks_Di_useTakenWidth : Cond.selects "FormatDesk$Directive" y_Di_useTakenWidth y_Di_useTakenWidth ∈ ax_big := ax_in 528 (by decide +kernel) (by decide +kernel)
def y_Di_useTakenPrecision : MethodName := ⟨"FormatDesk$Directive", "useTakenPrecision", "(I)V"⟩
abbrev c_Di_useTakenPrecision : ByteArray := prog_3_method_12_code
theorem kc_Di_useTakenPrecision : Cond.code y_Di_useTakenPrecision c_Di_useTakenPrecision 2 none ∈ ax_big := ax_in 533 (by decide +kernel) (by decide +kernel)
theorem ki_Di_useTakenPrecision : Cond.instanceMethod y_Di_useTakenPrecision ∈ ax_big := ax_in 531 (by decide +kernel) (by decide +kernel)
theorem ks_Di_useTakenPrecision : Cond.selects "FormatDesk$Directive" y_Di_useTakenPrecision y_Di_useTakenPrecision ∈ ax_big := ax_in 532 (by decide +kernel) (by decide +kernel)
def y_Fo_init : MethodName := ⟨"FormatDesk$Format", "<init>", "()V"⟩
abbrev c_Fo_init : ByteArray := prog_4_method_1_code
theorem kc_Fo_init : Cond.code y_Fo_init c_Fo_init 1 none ∈ ax_big := ax_in 83 (by decide +kernel) (by decide +kernel)
theorem ki_Fo_init : Cond.instanceMethod y_Fo_init ∈ ax_big := ax_in 82 (by decide +kernel) (by decide +kernel)
def y_Fo_octetsBeforeZero : MethodName := ⟨"FormatDesk$Format", "octetsBeforeZero", "(J)I"⟩
abbrev c_Fo_octetsBeforeZero : ByteArray := prog_4_method_2_code
theorem kc_Fo_octetsBeforeZero : Cond.code y_Fo_octetsBeforeZero c_Fo_octetsBeforeZero 3 (some FieldType.int) ∈ ax_big := ax_in 256 (by decide +kernel) (by decide +kernel)
theorem kt_Fo_octetsBeforeZero : Cond.static y_Fo_octetsBeforeZero ∈ ax_big := ax_in 255 (by decide +kernel) (by decide +kernel)
def y_Fo_octet : MethodName := ⟨"FormatDesk$Format", "octet", "(JI)I"⟩
abbrev c_Fo_octet : ByteArray := prog_4_method_3_code
theorem kc_Fo_octet : Cond.code y_Fo_octet c_Fo_octet 3 (some FieldType.int) ∈ ax_big := ax_in 259 (by decide +kernel) (by decide +kernel)
theorem kt_Fo_octet : Cond.static y_Fo_octet ∈ ax_big := ax_in 258 (by decide +kernel) (by decide +kernel)
def y_Fo_isForeign : MethodName := ⟨"FormatDesk$Format", "isForeign", "(I)Z"⟩
abbrev c_Fo_isForeign : ByteArray := prog_4_method_4_code
theorem kc_Fo_isForeign : Cond.code y_Fo_isForeign c_Fo_isForeign 1 (some FieldType.boolean) ∈ ax_big := ax_in 361 (by decide +kernel) (by decide +kernel)
theorem kt_Fo_isForeign : Cond.static y_Fo_isForeign ∈ ax_big := ax_in 360 (by decide +kernel) (by decide +kernel)
def y_Fo_add : MethodName := ⟨"FormatDesk$Format", "add", "(JI)V"⟩
abbrev c_Fo_add : ByteArray := prog_4_method_5_code
theorem kc_Fo_add : Cond.code y_Fo_add c_Fo_add 5 none ∈ ax_big := ax_in 326 (by decide +kernel) (by decide +kernel)
theorem ki_Fo_add : Cond.instanceMethod y_Fo_add ∈ ax_big := ax_in 324 (by decide +kernel) (by decide +kernel)
theorem ks_Fo_add : Cond.selects "FormatDesk$Format" y_Fo_add y_Fo_add ∈ ax_big := ax_in 325 (by decide +kernel) (by decide +kernel)
def y_Fo_letterAt : MethodName := ⟨"FormatDesk$Format", "letterAt", "(I)I"⟩
abbrev c_Fo_letterAt : ByteArray := prog_4_method_6_code
theorem kc_Fo_letterAt : Cond.code y_Fo_letterAt c_Fo_letterAt 2 (some FieldType.int) ∈ ax_big := ax_in 358 (by decide +kernel) (by decide +kernel)
theorem ki_Fo_letterAt : Cond.instanceMethod y_Fo_letterAt ∈ ax_big := ax_in 356 (by decide +kernel) (by decide +kernel)
theorem ks_Fo_letterAt : Cond.selects "FormatDesk$Format" y_Fo_letterAt y_Fo_letterAt ∈ ax_big := ax_in 357 (by decide +kernel) (by decide +kernel)
def y_Fo_placeOfForeignLetter : MethodName := ⟨"FormatDesk$Format", "placeOfForeignLetter", "()I"⟩
abbrev c_Fo_placeOfForeignLetter : ByteArray := prog_4_method_7_code
theorem kc_Fo_placeOfForeignLetter : Cond.code y_Fo_placeOfForeignLetter c_Fo_placeOfForeignLetter 2 (some FieldType.int) ∈ ax_big := ax_in 354 (by decide +kernel) (by decide +kernel)
theorem ki_Fo_placeOfForeignLetter : Cond.instanceMethod y_Fo_placeOfForeignLetter ∈ ax_big := ax_in 352 (by decide +kernel) (by decide +kernel)
theorem ks_Fo_placeOfForeignLetter : Cond.selects "FormatDesk$Format" y_Fo_placeOfForeignLetter y_Fo_placeOfForeignLetter ∈ ax_big := ax_in 353 (by decide +kernel) (by decide +kernel)
def y_Pi_init : MethodName := ⟨"FormatDesk$Piece", "<init>", "()V"⟩
abbrev c_Pi_init : ByteArray := prog_5_method_1_code
theorem kc_Pi_init : Cond.code y_Pi_init c_Pi_init 1 none ∈ ax_big := ax_in 162 (by decide +kernel) (by decide +kernel)
theorem ki_Pi_init : Cond.instanceMethod y_Pi_init ∈ ax_big := ax_in 161 (by decide +kernel) (by decide +kernel)
def y_Pi_becomeEmpty : MethodName := ⟨"FormatDesk$Piece", "becomeEmpty", "()V"⟩
abbrev c_Pi_becomeEmpty : ByteArray := prog_5_method_2_code
theorem kc_Pi_becomeEmpty : Cond.code y_Pi_becomeEmpty c_Pi_becomeEmpty 1 none ∈ ax_big := ax_in 541 (by decide +kernel) (by decide +kernel)
theorem ki_Pi_becomeEmpty : Cond.instanceMethod y_Pi_becomeEmpty ∈ ax_big := ax_in 539 (by decide +kernel) (by decide +kernel)
theorem ks_Pi_becomeEmpty : Cond.selects "FormatDesk$Piece" y_Pi_becomeEmpty y_Pi_becomeEmpty ∈ ax_big := ax_in 540 (by decide +kernel) (by decide +kernel)
def y_Pi_letZerosComeHere : MethodName := ⟨"FormatDesk$Piece", "letZerosComeHere", "()V"⟩
abbrev c_Pi_letZerosComeHere : ByteArray := prog_5_method_3_code
theorem kc_Pi_letZerosComeHere : Cond.code y_Pi_letZerosComeHere c_Pi_letZerosComeHere 1 none ∈ ax_big := ax_in 568 (by decide +kernel) (by decide +kernel)
theorem ki_Pi_letZerosComeHere : Cond.instanceMethod y_Pi_letZerosComeHere ∈ ax_big := ax_in 566 (by decide +kernel) (by decide +kernel)
theorem ks_Pi_letZerosComeHere : Cond.selects "FormatDesk$Piece" y_Pi_letZerosComeHere y_Pi_letZerosComeHere ∈ ax_big := ax_in 567 (by decide +kernel) (by decide +kernel)
def y_Pi_letterAt : MethodName := ⟨"FormatDesk$Piece", "letterAt", "(I)I"⟩
abbrev c_Pi_letterAt : ByteArray := prog_5_method_4_code
theorem kc_Pi_letterAt : Cond.code y_Pi_letterAt c_Pi_letterAt 2 (some FieldType.int) ∈ ax_big := ax_in 705 (by decide +kernel) (by decide +kernel)
theorem ki_Pi_letterAt : Cond.instanceMethod y_Pi_letterAt ∈ ax_big := ax_in 703 (by decide +kernel) (by decide +kernel)
theorem ks_Pi_letterAt : Cond.selects "FormatDesk$Piece" y_Pi_letterAt y_Pi_letterAt ∈ ax_big := ax_in 704 (by decide +kernel) (by decide +kernel)
def y_Pi_put : MethodName := ⟨"FormatDesk$Piece", "put", "(I)V"⟩
abbrev c_Pi_put : ByteArray := prog_5_method_5_code
theorem kc_Pi_put : Cond.code y_Pi_put c_Pi_put 2 none ∈ ax_big := ax_in 545 (by decide +kernel) (by decide +kernel)
theorem ki_Pi_put : Cond.instanceMethod y_Pi_put ∈ ax_big := ax_in 543 (by decide +kernel) (by decide +kernel)
theorem ks_Pi_put : Cond.selects "FormatDesk$Piece" y_Pi_put y_Pi_put ∈ ax_big := ax_in 544 (by decide +kernel) (by decide +kernel)
def y_Pi_putWord : MethodName := ⟨"FormatDesk$Piece", "putWord", "(Ljava/lang/String;)V"⟩
abbrev c_Pi_putWord : ByteArray := prog_5_method_6_code
theorem kc_Pi_putWord : Cond.code y_Pi_putWord c_Pi_putWord 3 none ∈ ax_big := ax_in 610 (by decide +kernel) (by decide +kernel)
theorem ki_Pi_putWord : Cond.instanceMethod y_Pi_putWord ∈ ax_big := ax_in 608 (by decide +kernel) (by decide +kernel)
theorem ks_Pi_putWord : Cond.selects "FormatDesk$Piece" y_Pi_putWord y_Pi_putWord ∈ ax_big := ax_in 609 (by decide +kernel) (by decide +kernel)
def y_Pi_putSign : MethodName := ⟨"FormatDesk$Piece", "putSign", "(ZLFormatDesk$Directive;)V"⟩
abbrev c_Pi_putSign : ByteArray := prog_5_method_7_code
theorem kc_Pi_putSign : Cond.code y_Pi_putSign c_Pi_putSign 3 none ∈ ax_big := ax_in 559 (by decide +kernel) (by decide +kernel)
theorem ki_Pi_putSign : Cond.instanceMethod y_Pi_putSign ∈ ax_big := ax_in 557 (by decide +kernel) (by decide +kernel)
theorem ks_Pi_putSign : Cond.selects "FormatDesk$Piece" y_Pi_putSign y_Pi_putSign ∈ ax_big := ax_in 558 (by decide +kernel) (by decide +kernel)
def y_Pi_putDigit : MethodName := ⟨"FormatDesk$Piece", "putDigit", "(I)V"⟩
abbrev c_Pi_putDigit : ByteArray := prog_5_method_8_code
theorem kc_Pi_putDigit : Cond.code y_Pi_putDigit c_Pi_putDigit 2 none ∈ ax_big := ax_in 634 (by decide +kernel) (by decide +kernel)
theorem ki_Pi_putDigit : Cond.instanceMethod y_Pi_putDigit ∈ ax_big := ax_in 632 (by decide +kernel) (by decide +kernel)
theorem ks_Pi_putDigit : Cond.selects "FormatDesk$Piece" y_Pi_putDigit y_Pi_putDigit ∈ ax_big := ax_in 633 (by decide +kernel) (by decide +kernel)
def y_Pi_putWhole : MethodName := ⟨"FormatDesk$Piece", "putWhole", "(JII)V"⟩
abbrev c_Pi_putWhole : ByteArray := prog_5_method_9_code
theorem kc_Pi_putWhole : Cond.code y_Pi_putWhole c_Pi_putWhole 11 none ∈ ax_big := ax_in 580 (by decide +kernel) (by decide +kernel)
theorem ki_Pi_putWhole : Cond.instanceMethod y_Pi_putWhole ∈ ax_big := ax_in 578 (by decide +kernel) (by decide +kernel)
theorem ks_Pi_putWhole : Cond.selects "FormatDesk$Piece" y_Pi_putWhole y_Pi_putWhole ∈ ax_big := ax_in 579 (by decide +kernel) (by decide +kernel)
def y_Pi_digitsOf : MethodName := ⟨"FormatDesk$Piece", "digitsOf", "(JI)I"⟩
abbrev c_Pi_digitsOf : ByteArray := prog_5_method_10_code
theorem kc_Pi_digitsOf : Cond.code y_Pi_digitsOf c_Pi_digitsOf 6 (some FieldType.int) ∈ ax_big := ax_in 571 (by decide +kernel) (by decide +kernel)
theorem kt_Pi_digitsOf : Cond.static y_Pi_digitsOf ∈ ax_big := ax_in 570 (by decide +kernel) (by decide +kernel)
def y_Pi_withoutLastDigit : MethodName := ⟨"FormatDesk$Piece", "withoutLastDigit", "(JI)J"⟩
abbrev c_Pi_withoutLastDigit : ByteArray := prog_5_method_11_code
theorem kc_Pi_withoutLastDigit : Cond.code y_Pi_withoutLastDigit c_Pi_withoutLastDigit 3 (some FieldType.long) ∈ ax_big := ax_in 574 (by decide +kernel) (by decide +kernel)
theorem kt_Pi_withoutLastDigit : Cond.static y_Pi_withoutLastDigit ∈ ax_big := ax_in 573 (by decide +kernel) (by decide +kernel)
def y_Pi_becomeGreat : MethodName := ⟨"FormatDesk$Piece", "becomeGreat", "()V"⟩
abbrev c_Pi_becomeGreat : ByteArray := prog_5_method_12_code
theorem kc_Pi_becomeGreat : Cond.code y_Pi_becomeGreat c_Pi_becomeGreat 2 none ∈ ax_big := ax_in 697 (by decide +kernel) (by decide +kernel)
theorem ki_Pi_becomeGreat : Cond.instanceMethod y_Pi_becomeGreat ∈ ax_big := ax_in 695 (by decide +kernel) (by decide +kernel)
theorem ks_Pi_becomeGreat : Cond.selects "FormatDesk$Piece" y_Pi_becomeGreat y_Pi_becomeGreat ∈ ax_big := ax_in 696 (by decide +kernel) (by decide +kernel)
def y_Wr_init : MethodName := ⟨"FormatDesk$Writer", "<init>", "()V"⟩
abbrev c_Wr_init : ByteArray := prog_6_method_1_code
theorem kc_Wr_init : Cond.code y_Wr_init c_Wr_init 1 none ∈ ax_big := ax_in 156 (by decide +kernel) (by decide +kernel)
theorem ki_Wr_init : Cond.instanceMethod y_Wr_init ∈ ax_big := ax_in 155 (by decide +kernel) (by decide +kernel)
def y_Wr_write : MethodName := ⟨"FormatDesk$Writer", "write", "(JLFormatDesk$Directive;)V"⟩
abbrev c_Wr_write : ByteArray := prog_6_method_2_code
theorem kc_Wr_write : Cond.code y_Wr_write c_Wr_write 4 none ∈ ax_big := ax_in 537 (by decide +kernel) (by decide +kernel)
theorem ki_Wr_write : Cond.instanceMethod y_Wr_write ∈ ax_big := ax_in 535 (by decide +kernel) (by decide +kernel)
theorem ks_Wr_write : Cond.selects "FormatDesk$Writer" y_Wr_write y_Wr_write ∈ ax_big := ax_in 536 (by decide +kernel) (by decide +kernel)
def y_Wr_writeLetter : MethodName := ⟨"FormatDesk$Writer", "writeLetter", "(J)V"⟩
abbrev c_Wr_writeLetter : ByteArray := prog_6_method_3_code
theorem kc_Wr_writeLetter : Cond.code y_Wr_writeLetter c_Wr_writeLetter 4 none ∈ ax_big := ax_in 549 (by decide +kernel) (by decide +kernel)
theorem ki_Wr_writeLetter : Cond.instanceMethod y_Wr_writeLetter ∈ ax_big := ax_in 548 (by decide +kernel) (by decide +kernel)
theorem ks_Wr_writeLetter : Cond.selects "FormatDesk$Writer" y_Wr_writeLetter y_Wr_writeLetter ∈ ax_big := ax_in 14 (by decide +kernel) (by decide +kernel)
def y_Wr_writeSigned : MethodName := ⟨"FormatDesk$Writer", "writeSigned", "(JLFormatDesk$Directive;)V"⟩
abbrev c_Wr_writeSigned : ByteArray := prog_6_method_4_code
theorem kc_Wr_writeSigned : Cond.code y_Wr_writeSigned c_Wr_writeSigned 4 none ∈ ax_big := ax_in 555 (by decide +kernel) (by decide +kernel)
theorem ki_Wr_writeSigned : Cond.instanceMethod y_Wr_writeSigned ∈ ax_big := ax_in 554 (by decide +kernel) (by decide +kernel)
theorem ks_Wr_writeSigned : Cond.selects "FormatDesk$Writer" y_Wr_writeSigned y_Wr_writeSigned ∈ ax_big := ax_in 15 (by decide +kernel) (by decide +kernel)
def y_Wr_writeUnsigned : MethodName := ⟨"FormatDesk$Writer", "writeUnsigned", "(JILFormatDesk$Directive;)V"⟩
abbrev c_Wr_writeUnsigned : ByteArray := prog_6_method_5_code
theorem kc_Wr_writeUnsigned : Cond.code y_Wr_writeUnsigned c_Wr_writeUnsigned 5 none ∈ ax_big := ax_in 605 (by decide +kernel) (by decide +kernel)
theorem ki_Wr_writeUnsigned : Cond.instanceMethod y_Wr_writeUnsigned ∈ ax_big := ax_in 604 (by decide +kernel) (by decide +kernel)
theorem ks_Wr_writeUnsigned : Cond.selects "FormatDesk$Writer" y_Wr_writeUnsigned y_Wr_writeUnsigned ∈ ax_big := ax_in 17 (by decide +kernel) (by decide +kernel)
def y_Wr_writeDigits : MethodName := ⟨"FormatDesk$Writer", "writeDigits", "(JILFormatDesk$Directive;)V"⟩
abbrev c_Wr_writeDigits : ByteArray := prog_6_method_6_code
theorem kc_Wr_writeDigits : Cond.code y_Wr_writeDigits c_Wr_writeDigits 7 none ∈ ax_big := ax_in 564 (by decide +kernel) (by decide +kernel)
theorem ki_Wr_writeDigits : Cond.instanceMethod y_Wr_writeDigits ∈ ax_big := ax_in 563 (by decide +kernel) (by decide +kernel)
theorem ks_Wr_writeDigits : Cond.selects "FormatDesk$Writer" y_Wr_writeDigits y_Wr_writeDigits ∈ ax_big := ax_in 16 (by decide +kernel) (by decide +kernel)
def y_Wr_writeFloating : MethodName := ⟨"FormatDesk$Writer", "writeFloating", "(JLFormatDesk$Directive;)V"⟩
abbrev c_Wr_writeFloating : ByteArray := prog_6_method_7_code
theorem kc_Wr_writeFloating : Cond.code y_Wr_writeFloating c_Wr_writeFloating 10 none ∈ ax_big := ax_in 615 (by decide +kernel) (by decide +kernel)
theorem ki_Wr_writeFloating : Cond.instanceMethod y_Wr_writeFloating ∈ ax_big := ax_in 614 (by decide +kernel) (by decide +kernel)
theorem ks_Wr_writeFloating : Cond.selects "FormatDesk$Writer" y_Wr_writeFloating y_Wr_writeFloating ∈ ax_big := ax_in 18 (by decide +kernel) (by decide +kernel)
def y_Wr_writeDecimal : MethodName := ⟨"FormatDesk$Writer", "writeDecimal", "(LFormatDesk$Directive;)V"⟩
abbrev c_Wr_writeDecimal : ByteArray := prog_6_method_8_code
theorem kc_Wr_writeDecimal : Cond.code y_Wr_writeDecimal c_Wr_writeDecimal 5 none ∈ ax_big := ax_in 667 (by decide +kernel) (by decide +kernel)
theorem ki_Wr_writeDecimal : Cond.instanceMethod y_Wr_writeDecimal ∈ ax_big := ax_in 666 (by decide +kernel) (by decide +kernel)
theorem ks_Wr_writeDecimal : Cond.selects "FormatDesk$Writer" y_Wr_writeDecimal y_Wr_writeDecimal ∈ ax_big := ax_in 25 (by decide +kernel) (by decide +kernel)
def y_Wr_precisionOf : MethodName := ⟨"FormatDesk$Writer", "precisionOf", "(LFormatDesk$Directive;)I"⟩
abbrev c_Wr_precisionOf : ByteArray := prog_6_method_9_code
theorem kc_Wr_precisionOf : Cond.code y_Wr_precisionOf c_Wr_precisionOf 1 (some FieldType.int) ∈ ax_big := ax_in 670 (by decide +kernel) (by decide +kernel)
theorem kt_Wr_precisionOf : Cond.static y_Wr_precisionOf ∈ ax_big := ax_in 669 (by decide +kernel) (by decide +kernel)
def y_Wr_putDigits : MethodName := ⟨"FormatDesk$Writer", "putDigits", "(IIZ)V"⟩
abbrev c_Wr_putDigits : ByteArray := prog_6_method_10_code
theorem kc_Wr_putDigits : Cond.code y_Wr_putDigits c_Wr_putDigits 5 none ∈ ax_big := ax_in 692 (by decide +kernel) (by decide +kernel)
theorem ki_Wr_putDigits : Cond.instanceMethod y_Wr_putDigits ∈ ax_big := ax_in 691 (by decide +kernel) (by decide +kernel)
theorem ks_Wr_putDigits : Cond.selects "FormatDesk$Writer" y_Wr_putDigits y_Wr_putDigits ∈ ax_big := ax_in 27 (by decide +kernel) (by decide +kernel)
def y_Wr_putPoint : MethodName := ⟨"FormatDesk$Writer", "putPoint", "(IZ)V"⟩
abbrev c_Wr_putPoint : ByteArray := prog_6_method_11_code
theorem kc_Wr_putPoint : Cond.code y_Wr_putPoint c_Wr_putPoint 3 none ∈ ax_big := ax_in 638 (by decide +kernel) (by decide +kernel)
theorem ki_Wr_putPoint : Cond.instanceMethod y_Wr_putPoint ∈ ax_big := ax_in 637 (by decide +kernel) (by decide +kernel)
theorem ks_Wr_putPoint : Cond.selects "FormatDesk$Writer" y_Wr_putPoint y_Wr_putPoint ∈ ax_big := ax_in 20 (by decide +kernel) (by decide +kernel)
def y_Wr_putExponent : MethodName := ⟨"FormatDesk$Writer", "putExponent", "(IZ)V"⟩
abbrev c_Wr_putExponent : ByteArray := prog_6_method_12_code
theorem kc_Wr_putExponent : Cond.code y_Wr_putExponent c_Wr_putExponent 4 none ∈ ax_big := ax_in 642 (by decide +kernel) (by decide +kernel)
theorem ki_Wr_putExponent : Cond.instanceMethod y_Wr_putExponent ∈ ax_big := ax_in 641 (by decide +kernel) (by decide +kernel)
theorem ks_Wr_putExponent : Cond.selects "FormatDesk$Writer" y_Wr_putExponent y_Wr_putExponent ∈ ax_big := ax_in 21 (by decide +kernel) (by decide +kernel)
def y_Wr_writeHexadecimal : MethodName := ⟨"FormatDesk$Writer", "writeHexadecimal", "(JILFormatDesk$Directive;)V"⟩
abbrev c_Wr_writeHexadecimal : ByteArray := prog_6_method_13_code
theorem kc_Wr_writeHexadecimal : Cond.code y_Wr_writeHexadecimal c_Wr_writeHexadecimal 9 none ∈ ax_big := ax_in 623 (by decide +kernel) (by decide +kernel)
theorem ki_Wr_writeHexadecimal : Cond.instanceMethod y_Wr_writeHexadecimal ∈ ax_big := ax_in 622 (by decide +kernel) (by decide +kernel)
theorem ks_Wr_writeHexadecimal : Cond.selects "FormatDesk$Writer" y_Wr_writeHexadecimal y_Wr_writeHexadecimal ∈ ax_big := ax_in 19 (by decide +kernel) (by decide +kernel)
def y_Wr_hexadecimalDigitsOf : MethodName := ⟨"FormatDesk$Writer", "hexadecimalDigitsOf", "(J)I"⟩
abbrev c_Wr_hexadecimalDigitsOf : ByteArray := prog_6_method_14_code
theorem kc_Wr_hexadecimalDigitsOf : Cond.code y_Wr_hexadecimalDigitsOf c_Wr_hexadecimalDigitsOf 3 (some FieldType.int) ∈ ax_big := ax_in 626 (by decide +kernel) (by decide +kernel)
theorem kt_Wr_hexadecimalDigitsOf : Cond.static y_Wr_hexadecimalDigitsOf ∈ ax_big := ax_in 625 (by decide +kernel) (by decide +kernel)
def y_Wr_roundHexadecimal : MethodName := ⟨"FormatDesk$Writer", "roundHexadecimal", "(JI)J"⟩
abbrev c_Wr_roundHexadecimal : ByteArray := prog_6_method_15_code
theorem kc_Wr_roundHexadecimal : Cond.code y_Wr_roundHexadecimal c_Wr_roundHexadecimal 10 (some FieldType.long) ∈ ax_big := ax_in 630 (by decide +kernel) (by decide +kernel)
theorem kt_Wr_roundHexadecimal : Cond.static y_Wr_roundHexadecimal ∈ ax_big := ax_in 629 (by decide +kernel) (by decide +kernel)
def y_La_text : MethodName := ⟨"FormatDeskLaw", "text", "(LFormatDesk;J[J)I"⟩
abbrev c_La_text : ByteArray := method_3_code
theorem kt_La_text : Cond.static y_La_text ∈ ax_big := ax_in 247 (by decide +kernel) (by decide +kernel)
def y_La_argument : MethodName := ⟨"FormatDeskLaw", "argument", "(LFormatDesk;J[J)I"⟩
abbrev c_La_argument : ByteArray := method_4_code
theorem kt_La_argument : Cond.static y_La_argument ∈ ax_big := ax_in 328 (by decide +kernel) (by decide +kernel)
def y_La_run : MethodName := ⟨"FormatDeskLaw", "run", "(LFormatDesk;[J)I"⟩
abbrev c_La_run : ByteArray := method_5_code
theorem kt_La_run : Cond.static y_La_run ∈ ax_big := ax_in 335 (by decide +kernel) (by decide +kernel)
def y_La_letters : MethodName := ⟨"FormatDeskLaw", "letters", "(LFormatDesk;I[J)I"⟩
abbrev c_La_letters : ByteArray := method_6_code
theorem kt_La_letters : Cond.static y_La_letters ∈ ax_big := ax_in 726 (by decide +kernel) (by decide +kernel)
def y_La_count : MethodName := ⟨"FormatDeskLaw", "count", "(LFormatDesk;I[J)I"⟩
abbrev c_La_count : ByteArray := method_7_code
theorem kt_La_count : Cond.static y_La_count ∈ ax_big := ax_in 733 (by decide +kernel) (by decide +kernel)
def y_St_indexOf : MethodName := ⟨"java/lang/String", "indexOf", "(I)I"⟩
abbrev c_St_indexOf : ByteArray := prog_16_method_79_code
theorem kc_St_indexOf : Cond.code y_St_indexOf c_St_indexOf 2 (some FieldType.int) ∈ ax_big := ax_in 403 (by decide +kernel) (by decide +kernel)
theorem ki_St_indexOf : Cond.instanceMethod y_St_indexOf ∈ ax_big := ax_in 401 (by decide +kernel) (by decide +kernel)
theorem ks_St_indexOf : Cond.selects "java/lang/String" y_St_indexOf y_St_indexOf ∈ ax_big := ax_in 402 (by decide +kernel) (by decide +kernel)
def y_St_indexOf2 : MethodName := ⟨"java/lang/String", "indexOf", "(II)I"⟩
abbrev c_St_indexOf2 : ByteArray := prog_16_method_80_code
theorem kc_St_indexOf2 : Cond.code y_St_indexOf2 c_St_indexOf2 3 (some FieldType.int) ∈ ax_big := ax_in 407 (by decide +kernel) (by decide +kernel)
theorem ki_St_indexOf2 : Cond.instanceMethod y_St_indexOf2 ∈ ax_big := ax_in 405 (by decide +kernel) (by decide +kernel)
theorem ks_St_indexOf2 : Cond.selects "java/lang/String" y_St_indexOf2 y_St_indexOf2 ∈ ax_big := ax_in 406 (by decide +kernel) (by decide +kernel)
def y_St_isLatin1 : MethodName := ⟨"java/lang/String", "isLatin1", "()Z"⟩
abbrev c_St_isLatin1 : ByteArray := prog_16_method_154_code
theorem kc_St_isLatin1 : Cond.code y_St_isLatin1 c_St_isLatin1 1 (some FieldType.boolean) ∈ ax_big := ax_in 411 (by decide +kernel) (by decide +kernel)
theorem ki_St_isLatin1 : Cond.instanceMethod y_St_isLatin1 ∈ ax_big := ax_in 409 (by decide +kernel) (by decide +kernel)
theorem ks_St_isLatin1 : Cond.selects "java/lang/String" y_St_isLatin1 y_St_isLatin1 ∈ ax_big := ax_in 410 (by decide +kernel) (by decide +kernel)
def y_St_length : MethodName := ⟨"java/lang/String", "length", "()I"⟩
abbrev c_St_length : ByteArray := prog_16_method_54_code
theorem kc_St_length : Cond.code y_St_length c_St_length 1 (some FieldType.int) ∈ ax_big := ax_in 417 (by decide +kernel) (by decide +kernel)
theorem ki_St_length : Cond.instanceMethod y_St_length ∈ ax_big := ax_in 415 (by decide +kernel) (by decide +kernel)
theorem ks_St_length : Cond.selects "java/lang/String" y_St_length y_St_length ∈ ax_big := ax_in 416 (by decide +kernel) (by decide +kernel)
def y_St_coder : MethodName := ⟨"java/lang/String", "coder", "()B"⟩
abbrev c_St_coder : ByteArray := prog_16_method_152_code
theorem kc_St_coder : Cond.code y_St_coder c_St_coder 1 (some FieldType.byte) ∈ ax_big := ax_in 421 (by decide +kernel) (by decide +kernel)
theorem ki_St_coder : Cond.instanceMethod y_St_coder ∈ ax_big := ax_in 419 (by decide +kernel) (by decide +kernel)
theorem ks_St_coder : Cond.selects "java/lang/String" y_St_coder y_St_coder ∈ ax_big := ax_in 420 (by decide +kernel) (by decide +kernel)
def y_Sl_indexOf : MethodName := ⟨"java/lang/StringLatin1", "indexOf", "([BIII)I"⟩
abbrev c_Sl_indexOf : ByteArray := prog_17_method_22_code
theorem kc_Sl_indexOf : Cond.code y_Sl_indexOf c_Sl_indexOf 4 (some FieldType.int) ∈ ax_big := ax_in 424 (by decide +kernel) (by decide +kernel)
theorem kt_Sl_indexOf : Cond.static y_Sl_indexOf ∈ ax_big := ax_in 423 (by decide +kernel) (by decide +kernel)
def y_Sl_canEncode : MethodName := ⟨"java/lang/StringLatin1", "canEncode", "(I)Z"⟩
abbrev c_Sl_canEncode : ByteArray := prog_17_method_4_code
theorem kc_Sl_canEncode : Cond.code y_Sl_canEncode c_Sl_canEncode 1 (some FieldType.boolean) ∈ ax_big := ax_in 427 (by decide +kernel) (by decide +kernel)
theorem kt_Sl_canEncode : Cond.static y_Sl_canEncode ∈ ax_big := ax_in 426 (by decide +kernel) (by decide +kernel)
def y_Ma_max : MethodName := ⟨"java/lang/Math", "max", "(II)I"⟩
abbrev c_Ma_max : ByteArray := prog_14_method_65_code
theorem kc_Ma_max : Cond.code y_Ma_max c_Ma_max 2 (some FieldType.int) ∈ ax_big := ax_in 430 (by decide +kernel) (by decide +kernel)
theorem kt_Ma_max : Cond.static y_Ma_max ∈ ax_big := ax_in 429 (by decide +kernel) (by decide +kernel)
def y_Ma_min : MethodName := ⟨"java/lang/Math", "min", "(II)I"⟩
abbrev c_Ma_min : ByteArray := prog_14_method_69_code
theorem kc_Ma_min : Cond.code y_Ma_min c_Ma_min 2 (some FieldType.int) ∈ ax_big := ax_in 433 (by decide +kernel) (by decide +kernel)
theorem kt_Ma_min : Cond.static y_Ma_min ∈ ax_big := ax_in 432 (by decide +kernel) (by decide +kernel)
def y_Sl_indexOfChar : MethodName := ⟨"java/lang/StringLatin1", "indexOfChar", "([BIII)I"⟩
abbrev c_Sl_indexOfChar : ByteArray := prog_17_method_23_code
theorem kc_Sl_indexOfChar : Cond.code y_Sl_indexOfChar c_Sl_indexOfChar 6 (some FieldType.int) ∈ ax_big := ax_in 436 (by decide +kernel) (by decide +kernel)
theorem kt_Sl_indexOfChar : Cond.static y_Sl_indexOfChar ∈ ax_big := ax_in 435 (by decide +kernel) (by decide +kernel)
def y_Su_indexOf : MethodName := ⟨"java/lang/StringUTF16", "indexOf", "([BIII)I"⟩
abbrev c_Su_indexOf : ByteArray := prog_18_method_40_code
theorem kc_Su_indexOf : Cond.code y_Su_indexOf c_Su_indexOf 4 (some FieldType.int) ∈ ax_big := ax_in 439 (by decide +kernel) (by decide +kernel)
theorem kt_Su_indexOf : Cond.static y_Su_indexOf ∈ ax_big := ax_in 438 (by decide +kernel) (by decide +kernel)
def y_Su_indexOfChar : MethodName := ⟨"java/lang/StringUTF16", "indexOfChar", "([BIII)I"⟩
abbrev c_Su_indexOfChar : ByteArray := prog_18_method_47_code
theorem kc_Su_indexOfChar : Cond.code y_Su_indexOfChar c_Su_indexOfChar 4 (some FieldType.int) ∈ ax_big := ax_in 445 (by decide +kernel) (by decide +kernel)
theorem kt_Su_indexOfChar : Cond.static y_Su_indexOfChar ∈ ax_big := ax_in 444 (by decide +kernel) (by decide +kernel)
def y_Su_checkBoundsBeginEnd : MethodName := ⟨"java/lang/StringUTF16", "checkBoundsBeginEnd", "(II[B)V"⟩
abbrev c_Su_checkBoundsBeginEnd : ByteArray := prog_18_method_93_code
theorem kc_Su_checkBoundsBeginEnd : Cond.code y_Su_checkBoundsBeginEnd c_Su_checkBoundsBeginEnd 3 none ∈ ax_big := ax_in 448 (by decide +kernel) (by decide +kernel)
theorem kt_Su_checkBoundsBeginEnd : Cond.static y_Su_checkBoundsBeginEnd ∈ ax_big := ax_in 447 (by decide +kernel) (by decide +kernel)
def y_Su_length : MethodName := ⟨"java/lang/StringUTF16", "length", "([B)I"⟩
abbrev c_Su_length : ByteArray := prog_18_method_6_code
theorem kc_Su_length : Cond.code y_Su_length c_Su_length 1 (some FieldType.int) ∈ ax_big := ax_in 451 (by decide +kernel) (by decide +kernel)
theorem kt_Su_length : Cond.static y_Su_length ∈ ax_big := ax_in 450 (by decide +kernel) (by decide +kernel)
def y_St_checkBoundsBeginEnd : MethodName := ⟨"java/lang/String", "checkBoundsBeginEnd", "(III)V"⟩
abbrev c_St_checkBoundsBeginEnd : ByteArray := prog_16_method_158_code
theorem kc_St_checkBoundsBeginEnd : Cond.code y_St_checkBoundsBeginEnd c_St_checkBoundsBeginEnd 3 none ∈ ax_big := ax_in 454 (by decide +kernel) (by decide +kernel)
theorem kt_St_checkBoundsBeginEnd : Cond.static y_St_checkBoundsBeginEnd ∈ ax_big := ax_in 453 (by decide +kernel) (by decide +kernel)
def y_Pr_checkFromToIndex : MethodName := ⟨"jdk/internal/util/Preconditions", "checkFromToIndex", "(IIILjava/util/function/BiFunction;)I"⟩
abbrev c_Pr_checkFromToIndex : ByteArray := prog_21_method_12_code
theorem kc_Pr_checkFromToIndex : Cond.code y_Pr_checkFromToIndex c_Pr_checkFromToIndex 4 (some FieldType.int) ∈ ax_big := ax_in 459 (by decide +kernel) (by decide +kernel)
theorem kt_Pr_checkFromToIndex : Cond.static y_Pr_checkFromToIndex ∈ ax_big := ax_in 458 (by decide +kernel) (by decide +kernel)
def y_Su_indexOfCharUnsafe : MethodName := ⟨"java/lang/StringUTF16", "indexOfCharUnsafe", "([BIII)I"⟩
abbrev c_Su_indexOfCharUnsafe : ByteArray := prog_18_method_48_code
theorem kc_Su_indexOfCharUnsafe : Cond.code y_Su_indexOfCharUnsafe c_Su_indexOfCharUnsafe 5 (some FieldType.int) ∈ ax_big := ax_in 462 (by decide +kernel) (by decide +kernel)
theorem kt_Su_indexOfCharUnsafe : Cond.static y_Su_indexOfCharUnsafe ∈ ax_big := ax_in 461 (by decide +kernel) (by decide +kernel)
def y_Su_getChar : MethodName := ⟨"java/lang/StringUTF16", "getChar", "([BI)C"⟩
abbrev c_Su_getChar : ByteArray := prog_18_method_5_code
theorem kc_Su_getChar : Cond.code y_Su_getChar c_Su_getChar 2 (some FieldType.char) ∈ ax_big := ax_in 465 (by decide +kernel) (by decide +kernel)
theorem kt_Su_getChar : Cond.static y_Su_getChar ∈ ax_big := ax_in 464 (by decide +kernel) (by decide +kernel)
def y_Su_indexOfSupplementary : MethodName := ⟨"java/lang/StringUTF16", "indexOfSupplementary", "([BIII)I"⟩
abbrev c_Su_indexOfSupplementary : ByteArray := prog_18_method_49_code
theorem kc_Su_indexOfSupplementary : Cond.code y_Su_indexOfSupplementary c_Su_indexOfSupplementary 7 (some FieldType.int) ∈ ax_big := ax_in 474 (by decide +kernel) (by decide +kernel)
theorem kt_Su_indexOfSupplementary : Cond.static y_Su_indexOfSupplementary ∈ ax_big := ax_in 473 (by decide +kernel) (by decide +kernel)
def y_Ch_isValidCodePoint : MethodName := ⟨"java/lang/Character", "isValidCodePoint", "(I)Z"⟩
abbrev c_Ch_isValidCodePoint : ByteArray := prog_9_method_11_code
theorem kc_Ch_isValidCodePoint : Cond.code y_Ch_isValidCodePoint c_Ch_isValidCodePoint 2 (some FieldType.boolean) ∈ ax_big := ax_in 477 (by decide +kernel) (by decide +kernel)
theorem kt_Ch_isValidCodePoint : Cond.static y_Ch_isValidCodePoint ∈ ax_big := ax_in 476 (by decide +kernel) (by decide +kernel)
def y_Ch_highSurrogate : MethodName := ⟨"java/lang/Character", "highSurrogate", "(I)C"⟩
abbrev c_Ch_highSurrogate : ByteArray := prog_9_method_28_code
theorem kc_Ch_highSurrogate : Cond.code y_Ch_highSurrogate c_Ch_highSurrogate 1 (some FieldType.char) ∈ ax_big := ax_in 480 (by decide +kernel) (by decide +kernel)
theorem kt_Ch_highSurrogate : Cond.static y_Ch_highSurrogate ∈ ax_big := ax_in 479 (by decide +kernel) (by decide +kernel)
def y_Ch_lowSurrogate : MethodName := ⟨"java/lang/Character", "lowSurrogate", "(I)C"⟩
abbrev c_Ch_lowSurrogate : ByteArray := prog_9_method_29_code
theorem kc_Ch_lowSurrogate : Cond.code y_Ch_lowSurrogate c_Ch_lowSurrogate 1 (some FieldType.char) ∈ ax_big := ax_in 484 (by decide +kernel) (by decide +kernel)
theorem kt_Ch_lowSurrogate : Cond.static y_Ch_lowSurrogate ∈ ax_big := ax_in 483 (by decide +kernel) (by decide +kernel)
def y_Ma_min2 : MethodName := ⟨"java/lang/Math", "min", "(JJ)J"⟩
abbrev c_Ma_min2 : ByteArray := prog_14_method_70_code
theorem kc_Ma_min2 : Cond.code y_Ma_min2 c_Ma_min2 4 (some FieldType.long) ∈ ax_big := ax_in 522 (by decide +kernel) (by decide +kernel)
theorem kt_Ma_min2 : Cond.static y_Ma_min2 ∈ ax_big := ax_in 521 (by decide +kernel) (by decide +kernel)
def y_Ma_max2 : MethodName := ⟨"java/lang/Math", "max", "(JJ)J"⟩
abbrev c_Ma_max2 : ByteArray := prog_14_method_66_code
theorem kc_Ma_max2 : Cond.code y_Ma_max2 c_Ma_max2 4 (some FieldType.long) ∈ ax_big := ax_in 525 (by decide +kernel) (by decide +kernel)
theorem kt_Ma_max2 : Cond.static y_Ma_max2 ∈ ax_big := ax_in 524 (by decide +kernel) (by decide +kernel)
def y_St_charAt : MethodName := ⟨"java/lang/String", "charAt", "(I)C"⟩
abbrev c_St_charAt : ByteArray := prog_16_method_56_code
theorem kc_St_charAt : Cond.code y_St_charAt c_St_charAt 2 (some FieldType.char) ∈ ax_big := ax_in 585 (by decide +kernel) (by decide +kernel)
theorem ki_St_charAt : Cond.instanceMethod y_St_charAt ∈ ax_big := ax_in 583 (by decide +kernel) (by decide +kernel)
theorem ks_St_charAt : Cond.selects "java/lang/String" y_St_charAt y_St_charAt ∈ ax_big := ax_in 584 (by decide +kernel) (by decide +kernel)
def y_Sl_charAt : MethodName := ⟨"java/lang/StringLatin1", "charAt", "([BI)C"⟩
abbrev c_Sl_charAt : ByteArray := prog_17_method_2_code
theorem kc_Sl_charAt : Cond.code y_Sl_charAt c_Sl_charAt 2 (some FieldType.char) ∈ ax_big := ax_in 588 (by decide +kernel) (by decide +kernel)
theorem kt_Sl_charAt : Cond.static y_Sl_charAt ∈ ax_big := ax_in 587 (by decide +kernel) (by decide +kernel)
def y_St_checkIndex : MethodName := ⟨"java/lang/String", "checkIndex", "(II)V"⟩
abbrev c_St_checkIndex : ByteArray := prog_16_method_155_code
theorem kc_St_checkIndex : Cond.code y_St_checkIndex c_St_checkIndex 2 none ∈ ax_big := ax_in 591 (by decide +kernel) (by decide +kernel)
theorem kt_St_checkIndex : Cond.static y_St_checkIndex ∈ ax_big := ax_in 590 (by decide +kernel) (by decide +kernel)
def y_Pr_checkIndex : MethodName := ⟨"jdk/internal/util/Preconditions", "checkIndex", "(IILjava/util/function/BiFunction;)I"⟩
abbrev c_Pr_checkIndex : ByteArray := prog_21_method_11_code
theorem kc_Pr_checkIndex : Cond.code y_Pr_checkIndex c_Pr_checkIndex 3 (some FieldType.int) ∈ ax_big := ax_in 594 (by decide +kernel) (by decide +kernel)
theorem kt_Pr_checkIndex : Cond.static y_Pr_checkIndex ∈ ax_big := ax_in 593 (by decide +kernel) (by decide +kernel)
def y_Su_charAt : MethodName := ⟨"java/lang/StringUTF16", "charAt", "([BI)C"⟩
abbrev c_Su_charAt : ByteArray := prog_18_method_83_code
theorem kc_Su_charAt : Cond.code y_Su_charAt c_Su_charAt 2 (some FieldType.char) ∈ ax_big := ax_in 597 (by decide +kernel) (by decide +kernel)
theorem kt_Su_charAt : Cond.static y_Su_charAt ∈ ax_big := ax_in 596 (by decide +kernel) (by decide +kernel)
def y_Su_checkIndex : MethodName := ⟨"java/lang/StringUTF16", "checkIndex", "(I[B)V"⟩
abbrev c_Su_checkIndex : ByteArray := prog_18_method_91_code
theorem kc_Su_checkIndex : Cond.code y_Su_checkIndex c_Su_checkIndex 2 none ∈ ax_big := ax_in 600 (by decide +kernel) (by decide +kernel)
theorem kt_Su_checkIndex : Cond.static y_Su_checkIndex ∈ ax_big := ax_in 599 (by decide +kernel) (by decide +kernel)
def y_Lo_remainderUnsigned : MethodName := ⟨"java/lang/Long", "remainderUnsigned", "(JJ)J"⟩
abbrev c_Lo_remainderUnsigned : ByteArray := prog_13_method_45_code
theorem kc_Lo_remainderUnsigned : Cond.code y_Lo_remainderUnsigned c_Lo_remainderUnsigned 8 (some FieldType.long) ∈ ax_big := ax_in 912 (by decide +kernel) (by decide +kernel)
theorem kt_Lo_remainderUnsigned : Cond.static y_Lo_remainderUnsigned ∈ ax_big := ax_in 911 (by decide +kernel) (by decide +kernel)
def y_Lo_divideUnsigned : MethodName := ⟨"java/lang/Long", "divideUnsigned", "(JJ)J"⟩
abbrev c_Lo_divideUnsigned : ByteArray := prog_13_method_44_code
theorem kc_Lo_divideUnsigned : Cond.code y_Lo_divideUnsigned c_Lo_divideUnsigned 8 (some FieldType.long) ∈ ax_big := ax_in 916 (by decide +kernel) (by decide +kernel)
theorem kt_Lo_divideUnsigned : Cond.static y_Lo_divideUnsigned ∈ ax_big := ax_in 915 (by decide +kernel) (by decide +kernel)
end
section
/-! THE ABSTRACT LAYER, 1: cells by number; pictures of the heap as lists (number, cell); 'ad' says where a number lies -/
abbrev ax_E : Type := (Nat × vp_A) ⊕ (Nat × List Value)
abbrev ax_H : Type := List (Nat × ax_E)
def ax_v (ad : Nat → Nat) (v : Value) : Value := match v with
  | .ref i => .ref (ad i)
  | .int x => .int x
  | .long x => .long x
  | .float x => .float x
  | .double x => .double x
  | .null => .null
  | .retAddr x => .retAddr x
theorem ax_vc (ad : Nat → Nat) (v : Value) : (ax_v ad v).category = v.category := by cases v <;> rfl
def ax_e (cid : Nat → ClassId) (ad : Nat → Nat) (e : ax_E) : va_E := match e with
  | .inl a => .inl (cid a.1, a.2)
  | .inr o => .inr (o.1, o.2.map (ax_v ad))
def ax_w (cid : Nat → ClassId) (ad : Nat → Nat) (h : ax_H) : va_W := h.map (fun q => (ad q.1, ax_e cid ad q.2))
def ax_l (ad : Nat → Nat) (lv : List (Nat × Value)) : List (Nat × Value) := lv.map (fun q => (q.1, ax_v ad q.2))
def ax_tys (cid : Nat → ClassId) : List (ClassId × FieldType) := [(cid 0, .int), (cid 1, .byte), (cid 2, .long)]
theorem ax_tyAt (cid : Nat → ClassId) {t : Nat} (ht : t < 3) : ∃ ty, (ax_tys cid)[t]? = some (cid t, ty) := by
  rcases (show t = 0 ∨ t = 1 ∨ t = 2 by omega) with rfl | rfl | rfl
  · exact ⟨_, rfl⟩
  · exact ⟨_, rfl⟩
  · exact ⟨_, rfl⟩
/-- the place and the cell of a number -/
def ax_f (k : Nat) : ax_H → Option (Nat × ax_E)
  | [] => none
  | q :: h => cond (Nat.beq q.1 k) (some (0, q.2)) ((ax_f k h).map (fun r => (r.1 + 1, r.2)))
theorem ax_f_spec {k i : Nat} {e : ax_E} : ∀ {h : ax_H}, ax_f k h = some (i, e) → h[i]? = some (k, e)
  | [], hh => by simp [ax_f] at hh
  | q :: h, hh => by
    unfold ax_f at hh
    cases hb : Nat.beq q.1 k with
    | true =>
      rw [hb] at hh
      simp only [cond_true, Option.some.injEq, Prod.mk.injEq] at hh
      obtain ⟨rfl, rfl⟩ := hh
      have : q.1 = k := Nat.eq_of_beq_eq_true hb
      subst this
      rfl
    | false =>
      rw [hb] at hh
      simp only [cond_false] at hh
      cases hf : ax_f k h with
      | none => rw [hf] at hh; simp at hh
      | some r =>
        rw [hf] at hh
        simp only [Option.map_some, Option.some.injEq, Prod.mk.injEq] at hh
        obtain ⟨rfl, rfl⟩ := hh
        rw [List.getElem?_cons_succ]
        exact ax_f_spec hf
/-- a local -/
def ax_q (i : Nat) : List (Nat × Value) → Option Value
  | [] => none
  | q :: r => cond (Nat.beq q.1 i) (some q.2) (ax_q i r)
theorem ax_q_mem {i : Nat} {v : Value} : ∀ {lv : List (Nat × Value)}, ax_q i lv = some v → (i, v) ∈ lv
  | [], hh => by simp [ax_q] at hh
  | q :: r, hh => by
    unfold ax_q at hh
    cases hb : Nat.beq q.1 i with
    | true =>
      rw [hb] at hh
      simp only [cond_true, Option.some.injEq] at hh
      have : q.1 = i := Nat.eq_of_beq_eq_true hb
      subst this
      subst hh
      exact List.mem_cons_self
    | false =>
      rw [hb] at hh
      simp only [cond_false] at hh
      exact List.mem_cons_of_mem _ (ax_q_mem hh)
theorem ax_lget {ls : Array Slot} {nL i : Nat} {ad : Nat → Nat} {lv : List (Nat × Value)} {v : Value} (hl : lv_has ls nL (ax_l ad lv)) (hv : ax_q i lv = some v) : ls[i]? = some (.val (ax_v ad v)) :=
  hl.2.2 (i, ax_v ad v) (List.mem_map.mpr ⟨(i, v), ax_q_mem hv, rfl⟩)
theorem ax_lix {i : Nat} {ad : Nat → Nat} {lv : List (Nat × Value)} {v : Value} (hv : ax_q i lv = some v) : ∃ j : Nat, (ax_l ad lv)[j]? = some (i, ax_v ad v) :=
  List.getElem?_of_mem (List.mem_map.mpr ⟨(i, v), ax_q_mem hv, rfl⟩)
def ax_ins (i : Nat) (v : Value) : List (Nat × Value) → List (Nat × Value)
  | [] => [(i, v)]
  | q :: r => cond (Nat.ble i q.1) ((i, v) :: q :: r) (q :: ax_ins i v r)
theorem ax_ins_mem {i : Nat} {v : Value} {x : Nat × Value} : ∀ {l : List (Nat × Value)}, x ∈ ax_ins i v l → x = (i, v) ∨ x ∈ l
  | [], hx => by
    left
    simpa [ax_ins] using hx
  | q :: r, hx => by
    unfold ax_ins at hx
    cases hb : Nat.ble i q.1 with
    | true =>
      rw [hb] at hx
      simp only [cond_true] at hx
      rcases List.mem_cons.mp hx with h | h
      · exact Or.inl h
      · exact Or.inr h
    | false =>
      rw [hb] at hx
      simp only [cond_false] at hx
      rcases List.mem_cons.mp hx with h | h
      · exact Or.inr (by rw [h]; exact List.mem_cons_self)
      · rcases ax_ins_mem h with h | h
        · exact Or.inl h
        · exact Or.inr (List.mem_cons_of_mem _ h)
def ax_s1 (i : Nat) (v : Value) (lv : List (Nat × Value)) : List (Nat × Value) := ax_ins i v (lv.filter (fun q => !(q.1 == i) && !(q.1 + 1 == i && q.2.category == 2)))
def ax_s2 (i : Nat) (v : Value) (lv : List (Nat × Value)) : List (Nat × Value) := ax_ins i v (lv.filter (fun q => !(q.1 == i) && (!(q.1 == i + 1) && !(q.1 + 1 == i && q.2.category == 2))))
theorem ax_lput1 {ls : Array Slot} {nL i : Nat} {ad : Nat → Nat} {lv : List (Nat × Value)} {v : Value} (hl : lv_has ls nL ((i, ax_v ad v) :: (ax_l ad lv).filter (fun q => !(q.1 == i) && !(q.1 + 1 == i && q.2.category == 2)))) : lv_has ls nL (ax_l ad (ax_s1 i v lv)) := by
  refine ⟨hl.1, hl.2.1, fun q hq => hl.2.2 q ?_⟩
  obtain ⟨q0, h0, rfl⟩ := List.mem_map.mp hq
  rcases ax_ins_mem h0 with h | h
  · rw [h]; exact List.mem_cons_self
  · obtain ⟨h1, h2⟩ := List.mem_filter.mp h
    refine List.mem_cons_of_mem _ (List.mem_filter.mpr ⟨List.mem_map.mpr ⟨q0, h1, rfl⟩, ?_⟩)
    simp only [ax_vc]
    exact h2
theorem ax_lput2 {ls : Array Slot} {nL i : Nat} {ad : Nat → Nat} {lv : List (Nat × Value)} {v : Value} (hl : lv_has ls nL ((i, ax_v ad v) :: (ax_l ad lv).filter (fun q => !(q.1 == i) && (!(q.1 == i + 1) && !(q.1 + 1 == i && q.2.category == 2))))) : lv_has ls nL (ax_l ad (ax_s2 i v lv)) := by
  refine ⟨hl.1, hl.2.1, fun q hq => hl.2.2 q ?_⟩
  obtain ⟨q0, h0, rfl⟩ := List.mem_map.mp hq
  rcases ax_ins_mem h0 with h | h
  · rw [h]; exact List.mem_cons_self
  · obtain ⟨h1, h2⟩ := List.mem_filter.mp h
    refine List.mem_cons_of_mem _ (List.mem_filter.mpr ⟨List.mem_map.mpr ⟨q0, h1, rfl⟩, ?_⟩)
    simp only [ax_vc]
    exact h2
theorem ax_wget {cid : Nat → ClassId} {ad : Nat → Nat} {h : ax_H} {i k : Nat} {e : ax_E} (hh : h[i]? = some (k, e)) : (ax_w cid ad h)[i]? = some (ad k, ax_e cid ad e) := by
  unfold ax_w
  rw [List.getElem?_map, hh]
  rfl
theorem ax_wset_eq (cid : Nat → ClassId) (ad : Nat → Nat) (h : ax_H) (i a : Nat) (e : ax_E) : ax_w cid ad (h.set i (a, e)) = (ax_w cid ad h).set i (ad a, ax_e cid ad e) := by
  unfold ax_w
  rw [List.map_set]
theorem ax_wsetP {D : va_G} {cl : List vw_C} {cid : Nat → ClassId} {ad : Nat → Nat} {h : ax_H} {i a : Nat} {e : ax_E} {H : Heap} (hP : va_P D cl ((ax_w cid ad h).set i (ad a, ax_e cid ad e)) H) : va_P D cl (ax_w cid ad (h.set i (a, e))) H := by
  rw [ax_wset_eq]; exact hP
theorem ax_wsetD {A : Nat → Prop} {cid : Nat → ClassId} {ad : Nat → Nat} {h : ax_H} {i a : Nat} {e : ax_E} (hD : va_D A ((ax_w cid ad h).set i (ad a, ax_e cid ad e))) : va_D A (ax_w cid ad (h.set i (a, e))) := by
  rw [ax_wset_eq]; exact hD
theorem ax_wsetFP {D : va_G} {cl : List vw_C} {cid : Nat → ClassId} {ad : Nat → Nat} {h : ax_H} {i a ci j : Nat} {fs : List Value} {v : Value} {H : Heap} (hP : va_P D cl ((ax_w cid ad h).set i (ad a, .inr (ci, (fs.map (ax_v ad)).set j (ax_v ad v)))) H) : va_P D cl (ax_w cid ad (h.set i (a, .inr (ci, fs.set j v)))) H := by
  rw [ax_wset_eq]
  show va_P D cl ((ax_w cid ad h).set i (ad a, .inr (ci, (fs.set j v).map (ax_v ad)))) H
  rw [List.map_set]; exact hP
theorem ax_wsetFD {A : Nat → Prop} {cid : Nat → ClassId} {ad : Nat → Nat} {h : ax_H} {i a ci j : Nat} {fs : List Value} {v : Value} (hD : va_D A ((ax_w cid ad h).set i (ad a, .inr (ci, (fs.map (ax_v ad)).set j (ax_v ad v))))) : va_D A (ax_w cid ad (h.set i (a, .inr (ci, fs.set j v)))) := by
  rw [ax_wset_eq]
  show va_D A ((ax_w cid ad h).set i (ad a, .inr (ci, (fs.set j v).map (ax_v ad))))
  rw [List.map_set]; exact hD
theorem ax_fsget {ad : Nat → Nat} {fs : List Value} {j : Nat} {v : Value} (hv : fs[j]? = some v) : (fs.map (ax_v ad))[j]? = some (ax_v ad v) := by
  rw [List.getElem?_map, hv]
  rfl
end
section
/-! what lies still: the String constants (100 + i the String, 110 + i its bytes), the table of fives (120) -/
def ax_len : List Nat := [16, 16, 2, 3, 3, 16, 3, 3]
def ax_txt (s : String) : List Int32 := s.toList.map (fun c => Int32.ofNat c.toNat)
def ax_byt : List (List Int32) := ["diuoxXceEfFgGaA%", "0123456789abcdef", "0x", "inf", "nan", "diouxXceEfFgGaA%", "INF", "NAN"].map ax_txt
def ax_refs : List (String × Nat × String × Nat) := [("FormatDesk$Directive", 87, "diuoxXceEfFgGaA%", 0), ("FormatDesk$Piece", 45, "0123456789abcdef", 1), ("FormatDesk$Writer", 78, "0x", 2), ("FormatDesk$Writer", 106, "inf", 3), ("FormatDesk$Writer", 108, "nan", 4), ("FormatDeskModel", 101, "diouxXceEfFgGaA%", 5), ("FormatDeskModel", 218, "INF", 6), ("FormatDeskModel", 220, "inf", 3), ("FormatDeskModel", 222, "NAN", 7), ("FormatDeskModel", 224, "nan", 4)]
def ax_five (j : Nat) : Int64 := Int64.ofNat (5 ^ j)
def ax_X (ad : Nat → Nat) (A : Nat → Prop) (U : State) (H : Heap) : Prop :=
  vk_S 8 ax_len ax_byt (fun i => ad (100 + i)) (fun i => ad (110 + i)) A U H ∧ (∀ q ∈ ax_refs, vk_R q.1 q.2.1 q.2.2.1 (ad (100 + q.2.2.2)) U) ∧ va_Z "java/lang/String" "COMPACT_STRINGS" "Z" (.int 1) A U H ∧ va_Z "FormatDesk$Decimal" "FIVES" "[J" (.ref (ad 120)) A U H ∧ va_T .long (ad 120) 13 (fun j => .long (ax_five j)) A U H ∧ (va_Z "jdk/internal/util/Preconditions" "SIOOBE_FORMATTER" "Ljava/util/function/BiFunction;" .null A U H ∨ va_Z "jdk/internal/util/Preconditions" "SIOOBE_FORMATTER" "Ljava/util/function/BiFunction;" (.ref (ad 121)) A U H)
theorem ax_X.kept {ad : Nat → Nat} {A : Nat → Prop} {U : State} {H H1 : Heap} (h : ax_X ad A U H) (hq : ∀ a : Nat, a < H.size → ¬ A a → H1[a]? = H[a]?) : ax_X ad A U H1 :=
  ⟨h.1.kept hq, h.2.1, h.2.2.1.kept hq, h.2.2.2.1.kept hq, h.2.2.2.2.1.kept hq, h.2.2.2.2.2.imp (fun z => z.kept hq) (fun z => z.kept hq)⟩
theorem ax_X.moved {ad : Nat → Nat} {A : Nat → Prop} {s U : State} {H : Heap} (h : ax_X ad A s H) (hW : s.WarmedH U.vm) : ax_X ad A U H :=
  ⟨vk_S.moved hW.alike h.1, fun q hq => (h.2.1 q hq).warm hW, va_Z.moved hW.alike h.2.2.1, va_Z.moved hW.alike h.2.2.2.1, va_T.moved hW.alike h.2.2.2.2.1, h.2.2.2.2.2.imp (fun z => va_Z.moved hW.alike z) (fun z => va_Z.moved hW.alike z)⟩
theorem ax_X.narrow {ad : Nat → Nat} {A B : Nat → Prop} {U : State} {H : Heap} (h : ax_X ad A U H) (hAB : ∀ q, B q → A q) : ax_X ad B U H :=
  ⟨h.1.narrow hAB, h.2.1, h.2.2.1.narrow hAB, h.2.2.2.1.narrow hAB, h.2.2.2.2.1.narrow hAB, h.2.2.2.2.2.imp (fun z => z.narrow hAB) (fun z => z.narrow hAB)⟩
theorem ax_X.same {ad : Nat → Nat} {A : Nat → Prop} {u U : State} {H : Heap} (hv : u.vm = U.vm) (h : ax_X ad A u H) : ax_X ad A U H := by
  have ha : u.vm.Alike U.vm := by rw [← hv]; exact Vm.Alike.refl u.vm
  exact ⟨vk_S.moved ha h.1, fun q hq => (h.2.1 q hq).same hv.symm, va_Z.moved ha h.2.2.1, va_Z.moved ha h.2.2.2.1, va_T.moved ha h.2.2.2.2.1, h.2.2.2.2.2.imp (fun z => va_Z.moved ha z) (fun z => va_Z.moved ha z)⟩
/-! THE ABSTRACT LAYER, 2: a method's ground, the judgement ax_V, contracts ax_CT -/
theorem ax_narrow {ad : Nat → Nat} {ty : FieldType} {v : Value} (h : narrow ty v = v) : narrow ty (ax_v ad v) = ax_v ad v := by
  cases v with
  | ref i => cases ty <;> rfl
  | _ => exact h
theorem ax_fits {ad : Nat → Nat} {ty : FieldType} {v : Value} (h : fits ty v = true) : fits ty (ax_v ad v) = true := by
  cases v with
  | ref i => cases ty <;> first | exact h | rfl
  | _ => exact h
/-- a method's ground: the machine, its code, the tables' words, the classes, what lies still -/
def ax_G (p : Program) (s : State) (m : MethodId) (args : Array Value) (meth : Method) (c : Code) (Ts : List Cond) (own : String) (cc : ByteArray) (nL : Nat) (D : va_G) (cid : Nat → ClassId) (ad : Nat → Nat) (A : Nat → Prop) : Prop :=
  p.tables.exec = Jvm.exec ∧ c.code = cc ∧ c.maxLocals = nL ∧ s.vm.findClass own = some m.cls ∧ (∀ w ∈ Ts, w.before args s = true) ∧ va_K D ax_cl (ax_tys cid) s ∧ (∀ q : Nat, s.heap.size ≤ q → A q) ∧ meth.locks = false ∧ (∀ w ∈ ax_nest, va_Nw w s) ∧ (∀ w ∈ ax_big, w ∈ Ts) ∧ ax_X ad A s s.heap
theorem ax_say {p : Program} {s : State} {m : MethodId} {args : Array Value} {meth : Method} {c : Code} {Ts : List Cond} {own : String} {cc : ByteArray} {nL : Nat} {D : va_G} {cid : Nat → ClassId} {ad : Nat → Nat} {A : Nat → Prop} (G : ax_G p s m args meth c Ts own cc nL D cid ad A) {w : Cond} (hw : w ∈ ax_big) : w.before args s = true := G.2.2.2.2.1 w (G.2.2.2.2.2.2.2.2.2.1 w hw)
theorem ax_lays {p : Program} {s : State} {m : MethodId} {args : Array Value} {meth : Method} {c : Code} {Ts : List Cond} {own : String} {cc : ByteArray} {nL : Nat} {D : va_G} {cid : Nat → ClassId} {ad : Nat → Nat} {A : Nat → Prop} (G : ax_G p s m args meth c Ts own cc nL D cid ad A) {ci : Nat} {C : String} {T : u_T} {N : Nat} (hc : ax_cl[ci]? = some (C, T, N)) : ∀ w ∈ u_ws C T N, w ∈ Ts := fun w hw => G.2.2.2.2.2.2.2.2.2.1 w (ax_laysB hc w hw)
def ax_V (p : Program) (l : Launch) (e : Env) (R : Room) (s : State) (m : MethodId) (args : Array Value) (below : List Frame) (meth : Method) (c : Code) (D : va_G) (cid : Nat → ClassId) (ad : Nat → Nat) (A : Nat → Prop) (nL : Nat) (cells slots : Nat) (Q : State → Prop) (pc : Nat) (lv : List (Nat × Value)) (st : List Value) (h : ax_H) : Prop :=
  ∀ (H : Heap) (locs : List Loc) (ls : Array Slot), va_P D ax_cl (ax_w cid ad h) H → va_D A (ax_w cid ad h) → va_S A s.heap H locs → lv_has ls nL (ax_l ad lv) →
    W p l e R s m args below meth c H locs cells slots Q (F0 m pc ls (st.map (ax_v ad)))
def ax_Pre (D : va_G) (cid : Nat → ClassId) (ad : Nat → Nat) (h : ax_H) (sz : Nat) (U : State) : Prop :=
  U.heap.size = sz ∧ va_P D ax_cl (ax_w cid ad h) U.heap ∧ va_K D ax_cl (ax_tys cid) U ∧ va_D (fun _ => True) (ax_w cid ad h) ∧ (∀ w ∈ ax_nest, va_Nw w U) ∧ ax_X ad (va_A (ax_w cid ad h) sz) U U.heap
def ax_Post (D : va_G) (cid : Nat → ClassId) (ad : Nat → Nat) (h0 : ax_H) (sz : Nat) (Q : Option Value → ax_H → Prop) : Array Value → State → Outcome → State → Prop := fun _ st oc t =>
  (∃ (r : Option Value) (h : ax_H), oc = .returned (r.map (ax_v ad)) ∧ Q r h ∧ h.map Prod.fst = h0.map Prod.fst ∧ va_P D ax_cl (ax_w cid ad h) t.heap ∧ va_D (va_A (ax_w cid ad h0) sz) (ax_w cid ad h)) ∧ va_F (va_A (ax_w cid ad h0) sz) st t
def ax_rm (k : Nat) : Room := { frames := k, cells := 0, slots := 0, locals := 40 * k }
/-- the contract of a method that makes nothing: called with 'as' where the cells are h, it comes back with an answer and cells of which Q holds -/
def ax_CT (l : Launch) (y : MethodName) (cc : ByteArray) (nL : Nat) (ret : Option FieldType) (k : Nat) (as : List Value) (h : ax_H) (Q : Option Value → ax_H → Prop) : Prop :=
  ∀ (D : va_G) (cid : Nat → ClassId) (ad : Nat → Nat) (sz : Nat), Met l y (Cond.code y cc nL ret :: ax_big) (ax_rm k) (va_Pc (as.map (ax_v ad)) (ax_Pre D cid ad h sz)) (ax_Post D cid ad h sz Q) 0 0 (va_A (ax_w cid ad h) sz)
theorem ax_args (ad : Nat → Nat) : ∀ (as : List Value) (i : Nat), lv_args i (as.map (ax_v ad)) = ax_l ad (lv_args i as)
  | [], _ => rfl
  | v :: as, i => by
    show (i, ax_v ad v) :: lv_args (if (ax_v ad v).category = 2 then i + 2 else i + 1) (as.map (ax_v ad)) = (i, ax_v ad v) :: ax_l ad (lv_args (if v.category = 2 then i + 2 else i + 1) as)
    rw [ax_vc, ax_args ad as]
theorem ax_slen (ad : Nat → Nat) : ∀ (as : List Value), (lg_sl (as.map (ax_v ad))).length = (lg_sl as).length
  | [] => rfl
  | v :: as => by
    have e1 : lg_sl ((v :: as).map (ax_v ad)) = (if (ax_v ad v).category = 2 then [.val (ax_v ad v), .second] else [.val (ax_v ad v)]) ++ lg_sl (as.map (ax_v ad)) := rfl
    have e2 : lg_sl (v :: as) = (if v.category = 2 then [.val v, .second] else [.val v]) ++ lg_sl as := rfl
    rw [e1, e2, ax_vc, List.length_append, List.length_append, ax_slen ad as]
    by_cases hc : v.category = 2
    · rw [if_pos hc, if_pos hc]; rfl
    · rw [if_neg hc, if_neg hc]; rfl
set_option maxHeartbeats 1000000 in
/-- a contract out of the walk of the body -/
theorem ax_ofV {l : Launch} {y : MethodName} {cc : ByteArray} {nL : Nat} {ret : Option FieldType} {k : Nat} {as : List Value} {h : ax_H} {Q : Option Value → ax_H → Prop} (hy : plainName y.cls = true) (hn : (lg_sl as).length ≤ nL)
    (body : ∀ (p : Program) (e : Env) (s : State) (m : MethodId) (args : Array Value) (below : List Frame) (meth : Method) (c : Code) (D : va_G) (cid : Nat → ClassId) (ad : Nat → Nat) (A : Nat → Prop) (Qc : Array Value → State → Outcome → State → Prop),
      ax_G p s m args meth c (Cond.code y cc nL ret :: ax_big) y.cls cc nL D cid ad A → meth.sig.returnType = ret →
      (∀ (r : Option Value) (h' : ax_H) (t : State) (H : Heap) (locs : List Loc), Q r h' → h'.map Prod.fst = h.map Prod.fst → va_P D ax_cl (ax_w cid ad h') H → va_D A (ax_w cid ad h') → va_S A s.heap H locs → t.heap = H → Qc args s (.returned (r.map (ax_v ad))) t) →
      ax_V p l e (ax_rm k) s m args below meth c D cid ad A nL 0 0 (MQ below Qc args s 0 0 A) 0 (lv_args 0 as) [] h) : ax_CT l y cc nL ret k as h Q := by
  intro D cid ad sz
  refine Met.ofW (cc := cc) (maxL := nL) (ret := ret) hy rfl ?_
  intro p e s m args below meth c s₁ B hml hv
  obtain ⟨rfl, hsz, hP, hK, hD0, hN, hX⟩ := hv
  subst hsz
  have hD := hD0.self (sz := s.heap.size)
  rw [lg_entry_eq]
  have hl := lv_entry (as.map (ax_v ad)) (n := nL) (by rw [ax_slen]; exact hn)
  rw [ax_args] at hl
  exact body p e s m _ below meth c D cid ad _ _ ⟨B.exec, B.bytes, hml, findClass_of_methodNamed B.named, atoms_spec (ws := Cond.code y cc nL ret :: ax_big) B.pre, hK, fun q hq => Or.inr hq, B.notSynchronized, hN, fun w hw => List.mem_cons_of_mem _ hw, hX⟩ B.returns
    (fun r h' t H locs hq hk hP hD hS ht => ⟨⟨r, h', rfl, hq, hk, by rw [ht]; exact hP, hD⟩, hS.F ht⟩) s.heap [] _ hP hD va_S.rf hl
end
section
section AXR
variable {p : Program} {l : Launch} {e : Env} {R : Room} {s : State} {m : MethodId} {args : Array Value} {below : List Frame} {meth : Method} {c : Code} {cells slots : Nat} {Q : State → Prop}
variable {D : va_G} {cid : Nat → ClassId} {ad : Nat → Nat} {A : Nat → Prop} {nL : Nat} {Ts : List Cond} {own : String} {cc : ByteArray}
variable {pc : Nat} {lv : List (Nat × Value)} {st : List Value} {h : ax_H}
theorem ax_iconst (G : ax_G p s m args meth c Ts own cc nL D cid ad A) {n : Int} {v : Int32} (d : decode cc pc = .ok (.iconst n, 1)) (hv : Int32.ofInt n = v) (k : ax_V p l e R s m args below meth c D cid ad A nL cells slots Q (pc + 1) lv (.int v :: st) h) : ax_V p l e R s m args below meth c D cid ad A nL cells slots Q pc lv st h := fun H locs ls hP hD hS hl => lv_iconst G.1 G.2.1 d hv (k H locs ls hP hD hS hl)
theorem ax_bipush (G : ax_G p s m args meth c Ts own cc nL D cid ad A) {n : Int} {v : Int32} (d : decode cc pc = .ok (.bipush n, 2)) (hv : (Int8.ofInt n).toInt32 = v) (k : ax_V p l e R s m args below meth c D cid ad A nL cells slots Q (pc + 2) lv (.int v :: st) h) : ax_V p l e R s m args below meth c D cid ad A nL cells slots Q pc lv st h := fun H locs ls hP hD hS hl => lv_bipush G.1 G.2.1 d hv (k H locs ls hP hD hS hl)
theorem ax_sipush (G : ax_G p s m args meth c Ts own cc nL D cid ad A) {n : Int} {v : Int32} (d : decode cc pc = .ok (.sipush n, 3)) (hv : (Int16.ofInt n).toInt32 = v) (k : ax_V p l e R s m args below meth c D cid ad A nL cells slots Q (pc + 3) lv (.int v :: st) h) : ax_V p l e R s m args below meth c D cid ad A nL cells slots Q pc lv st h := fun H locs ls hP hD hS hl => lv_sipush G.1 G.2.1 d hv (k H locs ls hP hD hS hl)
theorem ax_lconst (G : ax_G p s m args meth c Ts own cc nL D cid ad A) {n : Fin 2} {v : Int64} (d : decode cc pc = .ok (.lconst n, 1)) (hv : Int64.ofNat (n : Nat) = v) (k : ax_V p l e R s m args below meth c D cid ad A nL cells slots Q (pc + 1) lv (.long v :: st) h) : ax_V p l e R s m args below meth c D cid ad A nL cells slots Q pc lv st h := fun H locs ls hP hD hS hl => lv_lconst G.1 G.2.1 d hv (k H locs ls hP hD hS hl)
theorem ax_ldc (G : ax_G p s m args meth c Ts own cc nL D cid ad A) {i : Nat} {v : Int32} (d : decode cc pc = .ok (.ldc i, 2)) (hw : Cond.constant own i v ∈ ax_big) (k : ax_V p l e R s m args below meth c D cid ad A nL cells slots Q (pc + 2) lv (.int v :: st) h) : ax_V p l e R s m args below meth c D cid ad A nL cells slots Q pc lv st h := fun H locs ls hP hD hS hl => lv_ldc G.1 G.2.1 G.2.2.2.1 (ax_say G hw) d (k H locs ls hP hD hS hl)
theorem ax_ldc2 (G : ax_G p s m args meth c Ts own cc nL D cid ad A) {i : Nat} {v : Int64} (d : decode cc pc = .ok (.ldc2_w i, 3)) (hw : Cond.constantLong own i v ∈ ax_big) (k : ax_V p l e R s m args below meth c D cid ad A nL cells slots Q (pc + 3) lv (.long v :: st) h) : ax_V p l e R s m args below meth c D cid ad A nL cells slots Q pc lv st h := fun H locs ls hP hD hS hl => lv_ldc2 G.1 G.2.1 G.2.2.2.1 (ax_say G hw) d (k H locs ls hP hD hS hl)
theorem ax_iload_n (G : ax_G p s m args meth c Ts own cc nL D cid ad A) {k4 : Fin 4} {i : Nat} {x : Int32} (d : decode cc pc = .ok (.iload_n k4, 1)) (hi : (k4 : Nat) = i) (hv : ax_q i lv = some (.int x)) (k : ax_V p l e R s m args below meth c D cid ad A nL cells slots Q (pc + 1) lv (.int x :: st) h) : ax_V p l e R s m args below meth c D cid ad A nL cells slots Q pc lv st h := fun H locs ls hP hD hS hl => lv_iload_n G.1 G.2.1 d hi (ax_lget hl hv) (k H locs ls hP hD hS hl)
theorem ax_iload (G : ax_G p s m args meth c Ts own cc nL D cid ad A) {i : Nat} {x : Int32} (d : decode cc pc = .ok (.iload i, 2)) (hv : ax_q i lv = some (.int x)) (k : ax_V p l e R s m args below meth c D cid ad A nL cells slots Q (pc + 2) lv (.int x :: st) h) : ax_V p l e R s m args below meth c D cid ad A nL cells slots Q pc lv st h := fun H locs ls hP hD hS hl => lv_iload G.1 G.2.1 d (ax_lget hl hv) (k H locs ls hP hD hS hl)
theorem ax_lload_n (G : ax_G p s m args meth c Ts own cc nL D cid ad A) {k4 : Fin 4} {i : Nat} {x : Int64} (d : decode cc pc = .ok (.lload_n k4, 1)) (hi : (k4 : Nat) = i) (hv : ax_q i lv = some (.long x)) (k : ax_V p l e R s m args below meth c D cid ad A nL cells slots Q (pc + 1) lv (.long x :: st) h) : ax_V p l e R s m args below meth c D cid ad A nL cells slots Q pc lv st h := fun H locs ls hP hD hS hl => lv_lload_n G.1 G.2.1 d hi (ax_lget hl hv) (k H locs ls hP hD hS hl)
theorem ax_lload (G : ax_G p s m args meth c Ts own cc nL D cid ad A) {i : Nat} {x : Int64} (d : decode cc pc = .ok (.lload i, 2)) (hv : ax_q i lv = some (.long x)) (k : ax_V p l e R s m args below meth c D cid ad A nL cells slots Q (pc + 2) lv (.long x :: st) h) : ax_V p l e R s m args below meth c D cid ad A nL cells slots Q pc lv st h := fun H locs ls hP hD hS hl => lv_lload G.1 G.2.1 d (ax_lget hl hv) (k H locs ls hP hD hS hl)
theorem ax_aload_n (G : ax_G p s m args meth c Ts own cc nL D cid ad A) {k4 : Fin 4} {i : Nat} {x : Nat} (d : decode cc pc = .ok (.aload_n k4, 1)) (hi : (k4 : Nat) = i) (hv : ax_q i lv = some (.ref x)) (k : ax_V p l e R s m args below meth c D cid ad A nL cells slots Q (pc + 1) lv (.ref x :: st) h) : ax_V p l e R s m args below meth c D cid ad A nL cells slots Q pc lv st h := fun H locs ls hP hD hS hl => lv_aload_n G.1 G.2.1 d hi (ax_lget hl hv) (k H locs ls hP hD hS hl)
theorem ax_aload (G : ax_G p s m args meth c Ts own cc nL D cid ad A) {i : Nat} {x : Nat} (d : decode cc pc = .ok (.aload i, 2)) (hv : ax_q i lv = some (.ref x)) (k : ax_V p l e R s m args below meth c D cid ad A nL cells slots Q (pc + 2) lv (.ref x :: st) h) : ax_V p l e R s m args below meth c D cid ad A nL cells slots Q pc lv st h := fun H locs ls hP hD hS hl => lv_aload G.1 G.2.1 d (ax_lget hl hv) (k H locs ls hP hD hS hl)
theorem ax_istore_n (G : ax_G p s m args meth c Ts own cc nL D cid ad A) {k4 : Fin 4} {i : Nat} {x : Int32} (d : decode cc pc = .ok (.istore_n k4, 1)) (hi : (k4 : Nat) = i) (hn : i < nL) (k : ax_V p l e R s m args below meth c D cid ad A nL cells slots Q (pc + 1) (ax_s1 i (.int x) lv) st h) : ax_V p l e R s m args below meth c D cid ad A nL cells slots Q pc lv (.int x :: st) h := fun H locs ls hP hD hS hl => lv_istore_n G.1 G.2.1 d hi hl hn rfl (fun ls' hl' => k H locs ls' hP hD hS (ax_lput1 hl'))
theorem ax_istore (G : ax_G p s m args meth c Ts own cc nL D cid ad A) {i : Nat} {x : Int32} (d : decode cc pc = .ok (.istore i, 2)) (hn : i < nL) (k : ax_V p l e R s m args below meth c D cid ad A nL cells slots Q (pc + 2) (ax_s1 i (.int x) lv) st h) : ax_V p l e R s m args below meth c D cid ad A nL cells slots Q pc lv (.int x :: st) h := fun H locs ls hP hD hS hl => lv_istore G.1 G.2.1 d hl hn rfl (fun ls' hl' => k H locs ls' hP hD hS (ax_lput1 hl'))
theorem ax_lstore_n (G : ax_G p s m args meth c Ts own cc nL D cid ad A) {k4 : Fin 4} {i : Nat} {x : Int64} (d : decode cc pc = .ok (.lstore_n k4, 1)) (hi : (k4 : Nat) = i) (hn : i + 1 < nL) (k : ax_V p l e R s m args below meth c D cid ad A nL cells slots Q (pc + 1) (ax_s2 i (.long x) lv) st h) : ax_V p l e R s m args below meth c D cid ad A nL cells slots Q pc lv (.long x :: st) h := fun H locs ls hP hD hS hl => lv_lstore_n G.1 G.2.1 d hi hl hn rfl (fun ls' hl' => k H locs ls' hP hD hS (ax_lput2 hl'))
theorem ax_lstore (G : ax_G p s m args meth c Ts own cc nL D cid ad A) {i : Nat} {x : Int64} (d : decode cc pc = .ok (.lstore i, 2)) (hn : i + 1 < nL) (k : ax_V p l e R s m args below meth c D cid ad A nL cells slots Q (pc + 2) (ax_s2 i (.long x) lv) st h) : ax_V p l e R s m args below meth c D cid ad A nL cells slots Q pc lv (.long x :: st) h := fun H locs ls hP hD hS hl => lv_lstore G.1 G.2.1 d hl hn rfl (fun ls' hl' => k H locs ls' hP hD hS (ax_lput2 hl'))
theorem ax_astore_n (G : ax_G p s m args meth c Ts own cc nL D cid ad A) {k4 : Fin 4} {i : Nat} {x : Nat} (d : decode cc pc = .ok (.astore_n k4, 1)) (hi : (k4 : Nat) = i) (hn : i < nL) (k : ax_V p l e R s m args below meth c D cid ad A nL cells slots Q (pc + 1) (ax_s1 i (.ref x) lv) st h) : ax_V p l e R s m args below meth c D cid ad A nL cells slots Q pc lv (.ref x :: st) h := fun H locs ls hP hD hS hl => lv_astore_n G.1 G.2.1 d hi hl hn rfl (fun ls' hl' => k H locs ls' hP hD hS (ax_lput1 hl'))
theorem ax_astore (G : ax_G p s m args meth c Ts own cc nL D cid ad A) {i : Nat} {x : Nat} (d : decode cc pc = .ok (.astore i, 2)) (hn : i < nL) (k : ax_V p l e R s m args below meth c D cid ad A nL cells slots Q (pc + 2) (ax_s1 i (.ref x) lv) st h) : ax_V p l e R s m args below meth c D cid ad A nL cells slots Q pc lv (.ref x :: st) h := fun H locs ls hP hD hS hl => lv_astore G.1 G.2.1 d hl hn rfl (fun ls' hl' => k H locs ls' hP hD hS (ax_lput1 hl'))
theorem ax_iinc (G : ax_G p s m args meth c Ts own cc nL D cid ad A) {i : Nat} {n : Int} {x v : Int32} (d : decode cc pc = .ok (.iinc i n, 3)) (hv : ax_q i lv = some (.int x)) (he : x + Int32.ofInt n = v) (hn : i < nL) (k : ax_V p l e R s m args below meth c D cid ad A nL cells slots Q (pc + 3) (ax_s1 i (.int v) lv) st h) : ax_V p l e R s m args below meth c D cid ad A nL cells slots Q pc lv st h := by
  intro H locs ls hP hD hS hl
  obtain ⟨j, hj⟩ := ax_lix (ad := ad) hv
  exact lv_iinc G.1 G.2.1 d hl (k := j) hj he hn rfl (fun ls' hl' => k H locs ls' hP hD hS (ax_lput1 (v := .int v) hl'))
theorem ax_iadd (G : ax_G p s m args meth c Ts own cc nL D cid ad A) {x y : Int32} (d : decode cc pc = .ok (.iadd, 1))  (k : ax_V p l e R s m args below meth c D cid ad A nL cells slots Q (pc + 1) lv (.int (x + y) :: st) h) : ax_V p l e R s m args below meth c D cid ad A nL cells slots Q pc lv (.int y :: .int x :: st) h := fun H locs ls hP hD hS hl => lv_iadd G.1 G.2.1 d  (k H locs ls hP hD hS hl)
theorem ax_isub (G : ax_G p s m args meth c Ts own cc nL D cid ad A) {x y : Int32} (d : decode cc pc = .ok (.isub, 1))  (k : ax_V p l e R s m args below meth c D cid ad A nL cells slots Q (pc + 1) lv (.int (x - y) :: st) h) : ax_V p l e R s m args below meth c D cid ad A nL cells slots Q pc lv (.int y :: .int x :: st) h := fun H locs ls hP hD hS hl => lv_isub G.1 G.2.1 d  (k H locs ls hP hD hS hl)
theorem ax_imul (G : ax_G p s m args meth c Ts own cc nL D cid ad A) {x y : Int32} (d : decode cc pc = .ok (.imul, 1))  (k : ax_V p l e R s m args below meth c D cid ad A nL cells slots Q (pc + 1) lv (.int (x * y) :: st) h) : ax_V p l e R s m args below meth c D cid ad A nL cells slots Q pc lv (.int y :: .int x :: st) h := fun H locs ls hP hD hS hl => lv_imul G.1 G.2.1 d  (k H locs ls hP hD hS hl)
theorem ax_iand (G : ax_G p s m args meth c Ts own cc nL D cid ad A) {x y : Int32} (d : decode cc pc = .ok (.iand, 1))  (k : ax_V p l e R s m args below meth c D cid ad A nL cells slots Q (pc + 1) lv (.int (x &&& y) :: st) h) : ax_V p l e R s m args below meth c D cid ad A nL cells slots Q pc lv (.int y :: .int x :: st) h := fun H locs ls hP hD hS hl => lv_iand G.1 G.2.1 d  (k H locs ls hP hD hS hl)
theorem ax_ior (G : ax_G p s m args meth c Ts own cc nL D cid ad A) {x y : Int32} (d : decode cc pc = .ok (.ior, 1))  (k : ax_V p l e R s m args below meth c D cid ad A nL cells slots Q (pc + 1) lv (.int (x ||| y) :: st) h) : ax_V p l e R s m args below meth c D cid ad A nL cells slots Q pc lv (.int y :: .int x :: st) h := fun H locs ls hP hD hS hl => lv_ior G.1 G.2.1 d  (k H locs ls hP hD hS hl)
theorem ax_ixor (G : ax_G p s m args meth c Ts own cc nL D cid ad A) {x y : Int32} (d : decode cc pc = .ok (.ixor, 1))  (k : ax_V p l e R s m args below meth c D cid ad A nL cells slots Q (pc + 1) lv (.int (x ^^^ y) :: st) h) : ax_V p l e R s m args below meth c D cid ad A nL cells slots Q pc lv (.int y :: .int x :: st) h := fun H locs ls hP hD hS hl => lv_ixor G.1 G.2.1 d  (k H locs ls hP hD hS hl)
theorem ax_ishl (G : ax_G p s m args meth c Ts own cc nL D cid ad A) {x y : Int32} (d : decode cc pc = .ok (.ishl, 1))  (k : ax_V p l e R s m args below meth c D cid ad A nL cells slots Q (pc + 1) lv (.int (x <<< (y &&& 31)) :: st) h) : ax_V p l e R s m args below meth c D cid ad A nL cells slots Q pc lv (.int y :: .int x :: st) h := fun H locs ls hP hD hS hl => lv_ishl G.1 G.2.1 d  (k H locs ls hP hD hS hl)
theorem ax_ishr (G : ax_G p s m args meth c Ts own cc nL D cid ad A) {x y : Int32} (d : decode cc pc = .ok (.ishr, 1))  (k : ax_V p l e R s m args below meth c D cid ad A nL cells slots Q (pc + 1) lv (.int (x >>> (y &&& 31)) :: st) h) : ax_V p l e R s m args below meth c D cid ad A nL cells slots Q pc lv (.int y :: .int x :: st) h := fun H locs ls hP hD hS hl => lv_ishr G.1 G.2.1 d  (k H locs ls hP hD hS hl)
theorem ax_idiv (G : ax_G p s m args meth c Ts own cc nL D cid ad A) {x y : Int32} (d : decode cc pc = .ok (.idiv, 1)) (hne : ¬ y = 0) (k : ax_V p l e R s m args below meth c D cid ad A nL cells slots Q (pc + 1) lv (.int (x / y) :: st) h) : ax_V p l e R s m args below meth c D cid ad A nL cells slots Q pc lv (.int y :: .int x :: st) h := fun H locs ls hP hD hS hl => lv_idiv G.1 G.2.1 d hne (k H locs ls hP hD hS hl)
theorem ax_irem (G : ax_G p s m args meth c Ts own cc nL D cid ad A) {x y : Int32} (d : decode cc pc = .ok (.irem, 1)) (hne : ¬ y = 0) (k : ax_V p l e R s m args below meth c D cid ad A nL cells slots Q (pc + 1) lv (.int (x - x / y * y) :: st) h) : ax_V p l e R s m args below meth c D cid ad A nL cells slots Q pc lv (.int y :: .int x :: st) h := fun H locs ls hP hD hS hl => lv_irem G.1 G.2.1 d hne (k H locs ls hP hD hS hl)
theorem ax_ladd (G : ax_G p s m args meth c Ts own cc nL D cid ad A) {x y : Int64} (d : decode cc pc = .ok (.ladd, 1))  (k : ax_V p l e R s m args below meth c D cid ad A nL cells slots Q (pc + 1) lv (.long (x + y) :: st) h) : ax_V p l e R s m args below meth c D cid ad A nL cells slots Q pc lv (.long y :: .long x :: st) h := fun H locs ls hP hD hS hl => lv_ladd G.1 G.2.1 d  (k H locs ls hP hD hS hl)
theorem ax_lsub (G : ax_G p s m args meth c Ts own cc nL D cid ad A) {x y : Int64} (d : decode cc pc = .ok (.lsub, 1))  (k : ax_V p l e R s m args below meth c D cid ad A nL cells slots Q (pc + 1) lv (.long (x - y) :: st) h) : ax_V p l e R s m args below meth c D cid ad A nL cells slots Q pc lv (.long y :: .long x :: st) h := fun H locs ls hP hD hS hl => lv_lsub G.1 G.2.1 d  (k H locs ls hP hD hS hl)
theorem ax_lmul (G : ax_G p s m args meth c Ts own cc nL D cid ad A) {x y : Int64} (d : decode cc pc = .ok (.lmul, 1))  (k : ax_V p l e R s m args below meth c D cid ad A nL cells slots Q (pc + 1) lv (.long (x * y) :: st) h) : ax_V p l e R s m args below meth c D cid ad A nL cells slots Q pc lv (.long y :: .long x :: st) h := fun H locs ls hP hD hS hl => lv_lmul G.1 G.2.1 d  (k H locs ls hP hD hS hl)
theorem ax_land (G : ax_G p s m args meth c Ts own cc nL D cid ad A) {x y : Int64} (d : decode cc pc = .ok (.land, 1))  (k : ax_V p l e R s m args below meth c D cid ad A nL cells slots Q (pc + 1) lv (.long (x &&& y) :: st) h) : ax_V p l e R s m args below meth c D cid ad A nL cells slots Q pc lv (.long y :: .long x :: st) h := fun H locs ls hP hD hS hl => lv_land G.1 G.2.1 d  (k H locs ls hP hD hS hl)
theorem ax_lor (G : ax_G p s m args meth c Ts own cc nL D cid ad A) {x y : Int64} (d : decode cc pc = .ok (.lor, 1))  (k : ax_V p l e R s m args below meth c D cid ad A nL cells slots Q (pc + 1) lv (.long (x ||| y) :: st) h) : ax_V p l e R s m args below meth c D cid ad A nL cells slots Q pc lv (.long y :: .long x :: st) h := fun H locs ls hP hD hS hl => lv_lor G.1 G.2.1 d  (k H locs ls hP hD hS hl)
theorem ax_lxor (G : ax_G p s m args meth c Ts own cc nL D cid ad A) {x y : Int64} (d : decode cc pc = .ok (.lxor, 1))  (k : ax_V p l e R s m args below meth c D cid ad A nL cells slots Q (pc + 1) lv (.long (x ^^^ y) :: st) h) : ax_V p l e R s m args below meth c D cid ad A nL cells slots Q pc lv (.long y :: .long x :: st) h := fun H locs ls hP hD hS hl => lv_lxor G.1 G.2.1 d  (k H locs ls hP hD hS hl)
theorem ax_ldiv (G : ax_G p s m args meth c Ts own cc nL D cid ad A) {x y : Int64} (d : decode cc pc = .ok (.ldiv, 1)) (hne : ¬ y = 0) (k : ax_V p l e R s m args below meth c D cid ad A nL cells slots Q (pc + 1) lv (.long (x / y) :: st) h) : ax_V p l e R s m args below meth c D cid ad A nL cells slots Q pc lv (.long y :: .long x :: st) h := fun H locs ls hP hD hS hl => lv_ldiv G.1 G.2.1 d hne (k H locs ls hP hD hS hl)
theorem ax_lrem (G : ax_G p s m args meth c Ts own cc nL D cid ad A) {x y : Int64} (d : decode cc pc = .ok (.lrem, 1)) (hne : ¬ y = 0) (k : ax_V p l e R s m args below meth c D cid ad A nL cells slots Q (pc + 1) lv (.long (x - x / y * y) :: st) h) : ax_V p l e R s m args below meth c D cid ad A nL cells slots Q pc lv (.long y :: .long x :: st) h := fun H locs ls hP hD hS hl => lv_lrem G.1 G.2.1 d hne (k H locs ls hP hD hS hl)
theorem ax_ineg (G : ax_G p s m args meth c Ts own cc nL D cid ad A) {x : Int32} (d : decode cc pc = .ok (.ineg, 1))  (k : ax_V p l e R s m args below meth c D cid ad A nL cells slots Q (pc + 1) lv (.int (-x) :: st) h) : ax_V p l e R s m args below meth c D cid ad A nL cells slots Q pc lv (.int x :: st) h := fun H locs ls hP hD hS hl => lv_ineg G.1 G.2.1 d (k H locs ls hP hD hS hl)
theorem ax_lneg (G : ax_G p s m args meth c Ts own cc nL D cid ad A) {x : Int64} (d : decode cc pc = .ok (.lneg, 1))  (k : ax_V p l e R s m args below meth c D cid ad A nL cells slots Q (pc + 1) lv (.long (-x) :: st) h) : ax_V p l e R s m args below meth c D cid ad A nL cells slots Q pc lv (.long x :: st) h := fun H locs ls hP hD hS hl => lv_lneg G.1 G.2.1 d (k H locs ls hP hD hS hl)
theorem ax_iushr (G : ax_G p s m args meth c Ts own cc nL D cid ad A) {x y : Int32} (d : decode cc pc = .ok (.iushr, 1))  (k : ax_V p l e R s m args below meth c D cid ad A nL cells slots Q (pc + 1) lv (.int (x.toUInt32 >>> (y.toUInt32 &&& Int32.toUInt32 31)).toInt32 :: st) h) : ax_V p l e R s m args below meth c D cid ad A nL cells slots Q pc lv (.int y :: .int x :: st) h := fun H locs ls hP hD hS hl => lv_iushr G.1 G.2.1 d rfl (k H locs ls hP hD hS hl)
theorem ax_lushr (G : ax_G p s m args meth c Ts own cc nL D cid ad A) {x : Int64} {y : Int32} (d : decode cc pc = .ok (.lushr, 1))  (k : ax_V p l e R s m args below meth c D cid ad A nL cells slots Q (pc + 1) lv (.long (x.toUInt64 >>> (y.toInt64.toUInt64 &&& Int64.toUInt64 63)).toInt64 :: st) h) : ax_V p l e R s m args below meth c D cid ad A nL cells slots Q pc lv (.int y :: .long x :: st) h := fun H locs ls hP hD hS hl => lv_lushr G.1 G.2.1 d rfl (k H locs ls hP hD hS hl)
theorem ax_lshl (G : ax_G p s m args meth c Ts own cc nL D cid ad A) {x : Int64} {y : Int32} (d : decode cc pc = .ok (.lshl, 1))  (k : ax_V p l e R s m args below meth c D cid ad A nL cells slots Q (pc + 1) lv (.long (x <<< (y.toInt64 &&& 63)) :: st) h) : ax_V p l e R s m args below meth c D cid ad A nL cells slots Q pc lv (.int y :: .long x :: st) h := fun H locs ls hP hD hS hl => lv_lshl G.1 G.2.1 d rfl (k H locs ls hP hD hS hl)
theorem ax_lshr (G : ax_G p s m args meth c Ts own cc nL D cid ad A) {x : Int64} {y : Int32} (d : decode cc pc = .ok (.lshr, 1))  (k : ax_V p l e R s m args below meth c D cid ad A nL cells slots Q (pc + 1) lv (.long (x >>> (y.toInt64 &&& 63)) :: st) h) : ax_V p l e R s m args below meth c D cid ad A nL cells slots Q pc lv (.int y :: .long x :: st) h := fun H locs ls hP hD hS hl => lv_lshr G.1 G.2.1 d rfl (k H locs ls hP hD hS hl)
theorem ax_i2l (G : ax_G p s m args meth c Ts own cc nL D cid ad A) {x : Int32} (d : decode cc pc = .ok (.i2l, 1))  (k : ax_V p l e R s m args below meth c D cid ad A nL cells slots Q (pc + 1) lv (.long x.toInt64 :: st) h) : ax_V p l e R s m args below meth c D cid ad A nL cells slots Q pc lv (.int x :: st) h := fun H locs ls hP hD hS hl => lv_i2l G.1 G.2.1 d rfl (k H locs ls hP hD hS hl)
theorem ax_l2i (G : ax_G p s m args meth c Ts own cc nL D cid ad A) {x : Int64} (d : decode cc pc = .ok (.l2i, 1))  (k : ax_V p l e R s m args below meth c D cid ad A nL cells slots Q (pc + 1) lv (.int x.toInt32 :: st) h) : ax_V p l e R s m args below meth c D cid ad A nL cells slots Q pc lv (.long x :: st) h := fun H locs ls hP hD hS hl => lv_l2i G.1 G.2.1 d rfl (k H locs ls hP hD hS hl)
theorem ax_i2b (G : ax_G p s m args meth c Ts own cc nL D cid ad A) {x : Int32} (d : decode cc pc = .ok (.i2b, 1))  (k : ax_V p l e R s m args below meth c D cid ad A nL cells slots Q (pc + 1) lv (.int x.toInt8.toInt32 :: st) h) : ax_V p l e R s m args below meth c D cid ad A nL cells slots Q pc lv (.int x :: st) h := fun H locs ls hP hD hS hl => lv_i2b G.1 G.2.1 d rfl (k H locs ls hP hD hS hl)
theorem ax_i2c (G : ax_G p s m args meth c Ts own cc nL D cid ad A) {x : Int32} (d : decode cc pc = .ok (.i2c, 1))  (k : ax_V p l e R s m args below meth c D cid ad A nL cells slots Q (pc + 1) lv (.int (x.toUInt32 % 65536).toInt32 :: st) h) : ax_V p l e R s m args below meth c D cid ad A nL cells slots Q pc lv (.int x :: st) h := fun H locs ls hP hD hS hl => lv_i2c G.1 G.2.1 d rfl (k H locs ls hP hD hS hl)
theorem ax_lcmp (G : ax_G p s m args meth c Ts own cc nL D cid ad A) {x y : Int64} (d : decode cc pc = .ok (.lcmp, 1))  (k : ax_V p l e R s m args below meth c D cid ad A nL cells slots Q (pc + 1) lv (.int (lg_cmp x y) :: st) h) : ax_V p l e R s m args below meth c D cid ad A nL cells slots Q pc lv (.long y :: .long x :: st) h := fun H locs ls hP hD hS hl => W.lcmp G.1 G.2.1 d (k H locs ls hP hD hS hl)
theorem ax_dup (G : ax_G p s m args meth c Ts own cc nL D cid ad A) {v : Value} (d : decode cc pc = .ok (.dup, 1)) (hc : v.category = 1) (k : ax_V p l e R s m args below meth c D cid ad A nL cells slots Q (pc + 1) lv (v :: v :: st) h) : ax_V p l e R s m args below meth c D cid ad A nL cells slots Q pc lv (v :: st) h := fun H locs ls hP hD hS hl => lv_dup G.1 G.2.1 d (by rw [ax_vc]; exact hc) (k H locs ls hP hD hS hl)
theorem ax_pop (G : ax_G p s m args meth c Ts own cc nL D cid ad A) {v : Value} (d : decode cc pc = .ok (.pop, 1)) (hc : v.category = 1) (k : ax_V p l e R s m args below meth c D cid ad A nL cells slots Q (pc + 1) lv st h) : ax_V p l e R s m args below meth c D cid ad A nL cells slots Q pc lv (v :: st) h := fun H locs ls hP hD hS hl => lv_pop G.1 G.2.1 d (by rw [ax_vc]; exact hc) (k H locs ls hP hD hS hl)
theorem ax_dup_x1 (G : ax_G p s m args meth c Ts own cc nL D cid ad A) {v w : Value} (d : decode cc pc = .ok (.dup_x1, 1)) (hc : v.category = 1) (hc2 : w.category = 1) (k : ax_V p l e R s m args below meth c D cid ad A nL cells slots Q (pc + 1) lv (v :: w :: v :: st) h) : ax_V p l e R s m args below meth c D cid ad A nL cells slots Q pc lv (v :: w :: st) h := fun H locs ls hP hD hS hl => lv_dup_x1 G.1 G.2.1 d (by rw [ax_vc]; exact hc) (by rw [ax_vc]; exact hc2) (k H locs ls hP hD hS hl)
theorem ax_dup_x2 (G : ax_G p s m args meth c Ts own cc nL D cid ad A) {v w z : Value} (d : decode cc pc = .ok (.dup_x2, 1)) (hc : v.category = 1) (hc2 : w.category = 1) (hc3 : z.category = 1) (k : ax_V p l e R s m args below meth c D cid ad A nL cells slots Q (pc + 1) lv (v :: w :: z :: v :: st) h) : ax_V p l e R s m args below meth c D cid ad A nL cells slots Q pc lv (v :: w :: z :: st) h := fun H locs ls hP hD hS hl => lv_dup_x2 G.1 G.2.1 d (by rw [ax_vc]; exact hc) (by rw [ax_vc]; exact hc2) (by rw [ax_vc]; exact hc3) (k H locs ls hP hD hS hl)
theorem ax_dup2_11 (G : ax_G p s m args meth c Ts own cc nL D cid ad A) {v w : Value} (d : decode cc pc = .ok (.dup2, 1)) (hc : v.category = 1) (hc2 : w.category = 1) (k : ax_V p l e R s m args below meth c D cid ad A nL cells slots Q (pc + 1) lv (v :: w :: v :: w :: st) h) : ax_V p l e R s m args below meth c D cid ad A nL cells slots Q pc lv (v :: w :: st) h := fun H locs ls hP hD hS hl => lv_dup2_11 G.1 G.2.1 d (by rw [ax_vc]; exact hc) (by rw [ax_vc]; exact hc2) (k H locs ls hP hD hS hl)
theorem ax_dup2_2 (G : ax_G p s m args meth c Ts own cc nL D cid ad A) {v : Value} (d : decode cc pc = .ok (.dup2, 1)) (hc : v.category = 2) (k : ax_V p l e R s m args below meth c D cid ad A nL cells slots Q (pc + 1) lv (v :: v :: st) h) : ax_V p l e R s m args below meth c D cid ad A nL cells slots Q pc lv (v :: st) h := fun H locs ls hP hD hS hl => lv_dup2_2 G.1 G.2.1 d (by rw [ax_vc]; exact hc) (k H locs ls hP hD hS hl)
theorem ax_pop2_2 (G : ax_G p s m args meth c Ts own cc nL D cid ad A) {v : Value} (d : decode cc pc = .ok (.pop2, 1)) (hc : v.category = 2) (k : ax_V p l e R s m args below meth c D cid ad A nL cells slots Q (pc + 1) lv st h) : ax_V p l e R s m args below meth c D cid ad A nL cells slots Q pc lv (v :: st) h := fun H locs ls hP hD hS hl => lv_pop2_2 G.1 G.2.1 d (by rw [ax_vc]; exact hc) (k H locs ls hP hD hS hl)
theorem ax_dup2_x1_2 (G : ax_G p s m args meth c Ts own cc nL D cid ad A) {v w : Value} (d : decode cc pc = .ok (.dup2_x1, 1)) (hc : v.category = 2) (hc2 : w.category = 1) (k : ax_V p l e R s m args below meth c D cid ad A nL cells slots Q (pc + 1) lv (v :: w :: v :: st) h) : ax_V p l e R s m args below meth c D cid ad A nL cells slots Q pc lv (v :: w :: st) h := fun H locs ls hP hD hS hl => lv_dup2_x1_2 G.1 G.2.1 d (by rw [ax_vc]; exact hc) (by rw [ax_vc]; exact hc2) (k H locs ls hP hD hS hl)
theorem ax_dup2_x2_2 (G : ax_G p s m args meth c Ts own cc nL D cid ad A) {v w z : Value} (d : decode cc pc = .ok (.dup2_x2, 1)) (hc : v.category = 2) (hc2 : w.category = 1) (hc3 : z.category = 1) (k : ax_V p l e R s m args below meth c D cid ad A nL cells slots Q (pc + 1) lv (v :: w :: z :: v :: st) h) : ax_V p l e R s m args below meth c D cid ad A nL cells slots Q pc lv (v :: w :: z :: st) h := fun H locs ls hP hD hS hl => lv_dup2_x2_2 G.1 G.2.1 d (by rw [ax_vc]; exact hc) (by rw [ax_vc]; exact hc2) (by rw [ax_vc]; exact hc3) (k H locs ls hP hD hS hl)
theorem ax_if_eq (G : ax_G p s m args meth c Ts own cc nL D cid ad A) {x : Int32} {off : Int} {tgt : Nat} (d : decode cc pc = .ok (.ifCond .eq off, 3)) (ht : (pc : Int) + off = (tgt : Int)) (kt : x = 0 → ax_V p l e R s m args below meth c D cid ad A nL cells slots Q tgt lv st h) (kf : ¬ x = 0 → ax_V p l e R s m args below meth c D cid ad A nL cells slots Q (pc + 3) lv st h) : ax_V p l e R s m args below meth c D cid ad A nL cells slots Q pc lv (.int x :: st) h := fun H locs ls hP hD hS hl => lv_if_eq G.1 G.2.1 d ht (fun z => kt z H locs ls hP hD hS hl) (fun z => kf z H locs ls hP hD hS hl)
theorem ax_if_ne (G : ax_G p s m args meth c Ts own cc nL D cid ad A) {x : Int32} {off : Int} {tgt : Nat} (d : decode cc pc = .ok (.ifCond .ne off, 3)) (ht : (pc : Int) + off = (tgt : Int)) (kt : ¬ x = 0 → ax_V p l e R s m args below meth c D cid ad A nL cells slots Q tgt lv st h) (kf : x = 0 → ax_V p l e R s m args below meth c D cid ad A nL cells slots Q (pc + 3) lv st h) : ax_V p l e R s m args below meth c D cid ad A nL cells slots Q pc lv (.int x :: st) h := fun H locs ls hP hD hS hl => lv_if_ne G.1 G.2.1 d ht (fun z => kt z H locs ls hP hD hS hl) (fun z => kf z H locs ls hP hD hS hl)
theorem ax_if_lt (G : ax_G p s m args meth c Ts own cc nL D cid ad A) {x : Int32} {off : Int} {tgt : Nat} (d : decode cc pc = .ok (.ifCond .lt off, 3)) (ht : (pc : Int) + off = (tgt : Int)) (kt : x < 0 → ax_V p l e R s m args below meth c D cid ad A nL cells slots Q tgt lv st h) (kf : ¬ x < 0 → ax_V p l e R s m args below meth c D cid ad A nL cells slots Q (pc + 3) lv st h) : ax_V p l e R s m args below meth c D cid ad A nL cells slots Q pc lv (.int x :: st) h := fun H locs ls hP hD hS hl => lv_if_lt G.1 G.2.1 d ht (fun z => kt z H locs ls hP hD hS hl) (fun z => kf z H locs ls hP hD hS hl)
theorem ax_if_ge (G : ax_G p s m args meth c Ts own cc nL D cid ad A) {x : Int32} {off : Int} {tgt : Nat} (d : decode cc pc = .ok (.ifCond .ge off, 3)) (ht : (pc : Int) + off = (tgt : Int)) (kt : 0 ≤ x → ax_V p l e R s m args below meth c D cid ad A nL cells slots Q tgt lv st h) (kf : ¬ 0 ≤ x → ax_V p l e R s m args below meth c D cid ad A nL cells slots Q (pc + 3) lv st h) : ax_V p l e R s m args below meth c D cid ad A nL cells slots Q pc lv (.int x :: st) h := fun H locs ls hP hD hS hl => lv_if_ge G.1 G.2.1 d ht (fun z => kt z H locs ls hP hD hS hl) (fun z => kf z H locs ls hP hD hS hl)
theorem ax_if_gt (G : ax_G p s m args meth c Ts own cc nL D cid ad A) {x : Int32} {off : Int} {tgt : Nat} (d : decode cc pc = .ok (.ifCond .gt off, 3)) (ht : (pc : Int) + off = (tgt : Int)) (kt : 0 < x → ax_V p l e R s m args below meth c D cid ad A nL cells slots Q tgt lv st h) (kf : ¬ 0 < x → ax_V p l e R s m args below meth c D cid ad A nL cells slots Q (pc + 3) lv st h) : ax_V p l e R s m args below meth c D cid ad A nL cells slots Q pc lv (.int x :: st) h := fun H locs ls hP hD hS hl => lv_if_gt G.1 G.2.1 d ht (fun z => kt z H locs ls hP hD hS hl) (fun z => kf z H locs ls hP hD hS hl)
theorem ax_if_le (G : ax_G p s m args meth c Ts own cc nL D cid ad A) {x : Int32} {off : Int} {tgt : Nat} (d : decode cc pc = .ok (.ifCond .le off, 3)) (ht : (pc : Int) + off = (tgt : Int)) (kt : x ≤ 0 → ax_V p l e R s m args below meth c D cid ad A nL cells slots Q tgt lv st h) (kf : ¬ x ≤ 0 → ax_V p l e R s m args below meth c D cid ad A nL cells slots Q (pc + 3) lv st h) : ax_V p l e R s m args below meth c D cid ad A nL cells slots Q pc lv (.int x :: st) h := fun H locs ls hP hD hS hl => lv_if_le G.1 G.2.1 d ht (fun z => kt z H locs ls hP hD hS hl) (fun z => kf z H locs ls hP hD hS hl)
theorem ax_icmp_eq (G : ax_G p s m args meth c Ts own cc nL D cid ad A) {x y : Int32} {off : Int} {tgt : Nat} (d : decode cc pc = .ok (.if_icmp .eq off, 3)) (ht : (pc : Int) + off = (tgt : Int)) (kt : x = y → ax_V p l e R s m args below meth c D cid ad A nL cells slots Q tgt lv st h) (kf : ¬ x = y → ax_V p l e R s m args below meth c D cid ad A nL cells slots Q (pc + 3) lv st h) : ax_V p l e R s m args below meth c D cid ad A nL cells slots Q pc lv (.int y :: .int x :: st) h := fun H locs ls hP hD hS hl => lv_icmp_eq G.1 G.2.1 d ht (fun z => kt z H locs ls hP hD hS hl) (fun z => kf z H locs ls hP hD hS hl)
theorem ax_icmp_ne (G : ax_G p s m args meth c Ts own cc nL D cid ad A) {x y : Int32} {off : Int} {tgt : Nat} (d : decode cc pc = .ok (.if_icmp .ne off, 3)) (ht : (pc : Int) + off = (tgt : Int)) (kt : ¬ x = y → ax_V p l e R s m args below meth c D cid ad A nL cells slots Q tgt lv st h) (kf : x = y → ax_V p l e R s m args below meth c D cid ad A nL cells slots Q (pc + 3) lv st h) : ax_V p l e R s m args below meth c D cid ad A nL cells slots Q pc lv (.int y :: .int x :: st) h := fun H locs ls hP hD hS hl => lv_icmp_ne G.1 G.2.1 d ht (fun z => kt z H locs ls hP hD hS hl) (fun z => kf z H locs ls hP hD hS hl)
theorem ax_icmp_lt (G : ax_G p s m args meth c Ts own cc nL D cid ad A) {x y : Int32} {off : Int} {tgt : Nat} (d : decode cc pc = .ok (.if_icmp .lt off, 3)) (ht : (pc : Int) + off = (tgt : Int)) (kt : x < y → ax_V p l e R s m args below meth c D cid ad A nL cells slots Q tgt lv st h) (kf : ¬ x < y → ax_V p l e R s m args below meth c D cid ad A nL cells slots Q (pc + 3) lv st h) : ax_V p l e R s m args below meth c D cid ad A nL cells slots Q pc lv (.int y :: .int x :: st) h := fun H locs ls hP hD hS hl => lv_icmp_lt G.1 G.2.1 d ht (fun z => kt z H locs ls hP hD hS hl) (fun z => kf z H locs ls hP hD hS hl)
theorem ax_icmp_ge (G : ax_G p s m args meth c Ts own cc nL D cid ad A) {x y : Int32} {off : Int} {tgt : Nat} (d : decode cc pc = .ok (.if_icmp .ge off, 3)) (ht : (pc : Int) + off = (tgt : Int)) (kt : y ≤ x → ax_V p l e R s m args below meth c D cid ad A nL cells slots Q tgt lv st h) (kf : ¬ y ≤ x → ax_V p l e R s m args below meth c D cid ad A nL cells slots Q (pc + 3) lv st h) : ax_V p l e R s m args below meth c D cid ad A nL cells slots Q pc lv (.int y :: .int x :: st) h := fun H locs ls hP hD hS hl => lv_icmp_ge G.1 G.2.1 d ht (fun z => kt z H locs ls hP hD hS hl) (fun z => kf z H locs ls hP hD hS hl)
theorem ax_icmp_gt (G : ax_G p s m args meth c Ts own cc nL D cid ad A) {x y : Int32} {off : Int} {tgt : Nat} (d : decode cc pc = .ok (.if_icmp .gt off, 3)) (ht : (pc : Int) + off = (tgt : Int)) (kt : y < x → ax_V p l e R s m args below meth c D cid ad A nL cells slots Q tgt lv st h) (kf : ¬ y < x → ax_V p l e R s m args below meth c D cid ad A nL cells slots Q (pc + 3) lv st h) : ax_V p l e R s m args below meth c D cid ad A nL cells slots Q pc lv (.int y :: .int x :: st) h := fun H locs ls hP hD hS hl => lv_icmp_gt G.1 G.2.1 d ht (fun z => kt z H locs ls hP hD hS hl) (fun z => kf z H locs ls hP hD hS hl)
theorem ax_icmp_le (G : ax_G p s m args meth c Ts own cc nL D cid ad A) {x y : Int32} {off : Int} {tgt : Nat} (d : decode cc pc = .ok (.if_icmp .le off, 3)) (ht : (pc : Int) + off = (tgt : Int)) (kt : x ≤ y → ax_V p l e R s m args below meth c D cid ad A nL cells slots Q tgt lv st h) (kf : ¬ x ≤ y → ax_V p l e R s m args below meth c D cid ad A nL cells slots Q (pc + 3) lv st h) : ax_V p l e R s m args below meth c D cid ad A nL cells slots Q pc lv (.int y :: .int x :: st) h := fun H locs ls hP hD hS hl => lv_icmp_le G.1 G.2.1 d ht (fun z => kt z H locs ls hP hD hS hl) (fun z => kf z H locs ls hP hD hS hl)
theorem ax_goto (G : ax_G p s m args meth c Ts own cc nL D cid ad A) {off : Int} {tgt : Nat} (d : decode cc pc = .ok (.goto off, 3)) (ht : (pc : Int) + off = (tgt : Int)) (k : ax_V p l e R s m args below meth c D cid ad A nL cells slots Q tgt lv st h) : ax_V p l e R s m args below meth c D cid ad A nL cells slots Q pc lv st h := fun H locs ls hP hD hS hl => lv_goto G.1 G.2.1 d ht (k H locs ls hP hD hS hl)
theorem ax_iald (G : ax_G p s m args meth c Ts own cc nL D cid ad A) {a q0 n : Nat} {f : Nat → Int32} {i : Int32} (d : decode cc pc = .ok (.iaload, 1)) (ha : ax_f a h = some (q0, .inl (0, n, .inl f))) (hin : vp_in i n) (k : ax_V p l e R s m args below meth c D cid ad A nL cells slots Q (pc + 1) lv (.int (f i.toNatClampNeg) :: st) h) : ax_V p l e R s m args below meth c D cid ad A nL cells slots Q pc lv (.int i :: .ref a :: st) h := fun H locs ls hP hD hS hl => va_iald G.1 G.2.1 G.2.2.2.2.2.1 hP q0 0 (ax_wget (ax_f_spec ha)) rfl hin d (k H locs ls hP hD hS hl)
theorem ax_bald (G : ax_G p s m args meth c Ts own cc nL D cid ad A) {a q0 n : Nat} {f : Nat → Int32} {i : Int32} (d : decode cc pc = .ok (.baload, 1)) (ha : ax_f a h = some (q0, .inl (1, n, .inl f))) (hin : vp_in i n) (k : ax_V p l e R s m args below meth c D cid ad A nL cells slots Q (pc + 1) lv (.int (f i.toNatClampNeg) :: st) h) : ax_V p l e R s m args below meth c D cid ad A nL cells slots Q pc lv (.int i :: .ref a :: st) h := fun H locs ls hP hD hS hl => va_bald G.1 G.2.1 G.2.2.2.2.2.1 hP q0 1 (ax_wget (ax_f_spec ha)) rfl hin d (k H locs ls hP hD hS hl)
theorem ax_lald (G : ax_G p s m args meth c Ts own cc nL D cid ad A) {a q0 n : Nat} {f : Nat → Int64} {i : Int32} (d : decode cc pc = .ok (.laload, 1)) (ha : ax_f a h = some (q0, .inl (2, n, .inr (.inl f)))) (hin : vp_in i n) (k : ax_V p l e R s m args below meth c D cid ad A nL cells slots Q (pc + 1) lv (.long (f i.toNatClampNeg) :: st) h) : ax_V p l e R s m args below meth c D cid ad A nL cells slots Q pc lv (.int i :: .ref a :: st) h := fun H locs ls hP hD hS hl => va_lald G.1 G.2.1 G.2.2.2.2.2.1 hP q0 2 (ax_wget (ax_f_spec ha)) rfl hin d (k H locs ls hP hD hS hl)
theorem ax_iast (G : ax_G p s m args meth c Ts own cc nL D cid ad A) {a q0 n : Nat} {f : Nat → Int32} {i : Int32} {x : Int32} (d : decode cc pc = .ok (.iastore, 1)) (ha : ax_f a h = some (q0, .inl (0, n, .inl f))) (hin : vp_in i n) (k : ax_V p l e R s m args below meth c D cid ad A nL cells slots Q (pc + 1) lv st (h.set q0 (a, .inl (0, n, .inl (upd f i.toNatClampNeg x))))) : ax_V p l e R s m args below meth c D cid ad A nL cells slots Q pc lv (.int x :: .int i :: .ref a :: st) h := fun H locs ls hP hD hS hl => va_iast G.1 G.2.1 G.2.2.2.2.2.1 hP hD hS q0 0 (ax_wget (ax_f_spec ha)) rfl hin d (fun H1 locs1 hP1 hD1 hS1 => k H1 locs1 ls (ax_wsetP hP1) (ax_wsetD hD1) hS1 hl)
theorem ax_bast (G : ax_G p s m args meth c Ts own cc nL D cid ad A) {a q0 n : Nat} {f : Nat → Int32} {i : Int32} {x : Int32} (d : decode cc pc = .ok (.bastore, 1)) (ha : ax_f a h = some (q0, .inl (1, n, .inl f))) (hin : vp_in i n) (k : ax_V p l e R s m args below meth c D cid ad A nL cells slots Q (pc + 1) lv st (h.set q0 (a, .inl (1, n, .inl (upd f i.toNatClampNeg (vp_nar .byte x)))))) : ax_V p l e R s m args below meth c D cid ad A nL cells slots Q pc lv (.int x :: .int i :: .ref a :: st) h := fun H locs ls hP hD hS hl => va_bast G.1 G.2.1 G.2.2.2.2.2.1 hP hD hS q0 1 (ax_wget (ax_f_spec ha)) rfl hin d (fun H1 locs1 hP1 hD1 hS1 => k H1 locs1 ls (ax_wsetP hP1) (ax_wsetD hD1) hS1 hl)
theorem ax_last (G : ax_G p s m args meth c Ts own cc nL D cid ad A) {a q0 n : Nat} {f : Nat → Int64} {i : Int32} {x : Int64} (d : decode cc pc = .ok (.lastore, 1)) (ha : ax_f a h = some (q0, .inl (2, n, .inr (.inl f)))) (hin : vp_in i n) (k : ax_V p l e R s m args below meth c D cid ad A nL cells slots Q (pc + 1) lv st (h.set q0 (a, .inl (2, n, .inr (.inl (vp_updL f i.toNatClampNeg x)))))) : ax_V p l e R s m args below meth c D cid ad A nL cells slots Q pc lv (.long x :: .int i :: .ref a :: st) h := fun H locs ls hP hD hS hl => va_last G.1 G.2.1 G.2.2.2.2.2.1 hP hD hS q0 2 (ax_wget (ax_f_spec ha)) rfl hin d (fun H1 locs1 hP1 hD1 hS1 => k H1 locs1 ls (ax_wsetP hP1) (ax_wsetD hD1) hS1 hl)
theorem ax_alen (G : ax_G p s m args meth c Ts own cc nL D cid ad A) {a q0 t0 : Nat} {x : vp_A} {v : Int32} (d : decode cc pc = .ok (.arraylength, 1)) (ha : ax_f a h = some (q0, .inl (t0, x))) (ht : t0 < 3) (hv : Int32.ofNat x.1 = v) (k : ax_V p l e R s m args below meth c D cid ad A nL cells slots Q (pc + 1) lv (.int v :: st) h) : ax_V p l e R s m args below meth c D cid ad A nL cells slots Q pc lv (.ref a :: st) h := by
  intro H locs ls hP hD hS hl
  obtain ⟨ty, hty⟩ := ax_tyAt cid ht
  exact va_alen G.1 G.2.1 G.2.2.2.2.2.1 hP q0 t0 (ax_wget (ax_f_spec ha)) hty hv d (k H locs ls hP hD hS hl)
theorem ax_get (G : ax_G p s m args meth c Ts own cc nL D cid ad A) {a q0 ci j i : Nat} {fs : List Value} {v : Value} {C : String} {T : u_T} {N : Nat} (d : decode cc pc = .ok (.getfield i, 3)) (ha : ax_f a h = some (q0, .inr (ci, fs))) (hc : ax_cl[ci]? = some (C, T, N)) (hj : j < N) (hw : Cond.fieldLink own i (T j).1 (T j).2.1 (T j).2.2.1 ∈ ax_big) (hv : fs[j]? = some v) (k : ax_V p l e R s m args below meth c D cid ad A nL cells slots Q (pc + 3) lv (v :: st) h) : ax_V p l e R s m args below meth c D cid ad A nL cells slots Q pc lv (.ref a :: st) h := fun H locs ls hP hD hS hl => va_get G.1 G.2.1 G.2.2.2.2.1 (ax_lays G hc) G.2.2.2.1 G.2.2.2.2.2.1 hP q0 (ax_wget (ax_f_spec ha)) hc j hj (ax_say G hw) (fun _ h9 => h9) (ax_fsget hv) d (k H locs ls hP hD hS hl)
theorem ax_put (G : ax_G p s m args meth c Ts own cc nL D cid ad A) {a q0 ci j i : Nat} {fs : List Value} {v : Value} {C : String} {T : u_T} {N : Nat} (d : decode cc pc = .ok (.putfield i, 3)) (ha : ax_f a h = some (q0, .inr (ci, fs))) (hc : ax_cl[ci]? = some (C, T, N)) (hj : j < N) (hw : Cond.fieldLink own i (T j).1 (T j).2.1 (T j).2.2.1 ∈ ax_big) (hfin : (T j).2.2.2 = false) (hn : narrow (ax_ty ci j) v = v) (hfit : fits (ax_ty ci j) v = true) (hl0 : j < fs.length) (k : ax_V p l e R s m args below meth c D cid ad A nL cells slots Q (pc + 3) lv st (h.set q0 (a, .inr (ci, fs.set j v)))) : ax_V p l e R s m args below meth c D cid ad A nL cells slots Q pc lv (v :: .ref a :: st) h := fun H locs ls hP hD hS hl => va_put G.1 G.2.1 G.2.2.2.2.1 (ax_lays G hc) (ax_ty ci) (ax_tyok hc) (ax_names hc) G.2.2.2.1 G.2.2.2.2.2.1 hP hD hS q0 (ax_wget (ax_f_spec ha)) hc j hj (ax_say G hw) (fun _ h9 => h9) hfin (ax_tyok hc j hj) (ax_narrow hn) (ax_fits hfit) (by simpa using hl0) d (fun H1 locs1 hP1 hD1 hS1 => k H1 locs1 ls (ax_wsetFP hP1) (ax_wsetFD hD1) hS1 hl)
theorem ax_getN (G : ax_G p s m args meth c Ts own cc nL D cid ad A) {a q0 ci j i : Nat} {fs : List Value} {v : Value} {C : String} {T : u_T} {N : Nat} {host : String} (d : decode cc pc = .ok (.getfield i, 3)) (ha : ax_f a h = some (q0, .inr (ci, fs))) (hc : ax_cl[ci]? = some (C, T, N)) (hj : j < N) (hw : Cond.fieldLinkNest own i (T j).1 (T j).2.1 (T j).2.2.1 host ∈ ax_nest) (hv : fs[j]? = some v) (k : ax_V p l e R s m args below meth c D cid ad A nL cells slots Q (pc + 3) lv (v :: st) h) : ax_V p l e R s m args below meth c D cid ad A nL cells slots Q pc lv (.ref a :: st) h := fun H locs ls hP hD hS hl => va_getN G.1 G.2.1 G.2.2.2.2.1 (ax_lays G hc) G.2.2.2.1 G.2.2.2.2.2.1 hP q0 (ax_wget (ax_f_spec ha)) hc j hj (va_Nw.use rfl (G.2.2.2.2.2.2.2.2.1 _ hw)) (fun _ h9 => h9) (ax_fsget hv) d (k H locs ls hP hD hS hl)
theorem ax_putN (G : ax_G p s m args meth c Ts own cc nL D cid ad A) {a q0 ci j i : Nat} {fs : List Value} {v : Value} {C : String} {T : u_T} {N : Nat} {host : String} (d : decode cc pc = .ok (.putfield i, 3)) (ha : ax_f a h = some (q0, .inr (ci, fs))) (hc : ax_cl[ci]? = some (C, T, N)) (hj : j < N) (hw : Cond.fieldLinkNest own i (T j).1 (T j).2.1 (T j).2.2.1 host ∈ ax_nest) (hfin : (T j).2.2.2 = false) (hn : narrow (ax_ty ci j) v = v) (hfit : fits (ax_ty ci j) v = true) (hl0 : j < fs.length) (k : ax_V p l e R s m args below meth c D cid ad A nL cells slots Q (pc + 3) lv st (h.set q0 (a, .inr (ci, fs.set j v)))) : ax_V p l e R s m args below meth c D cid ad A nL cells slots Q pc lv (v :: .ref a :: st) h := fun H locs ls hP hD hS hl => va_putN G.1 G.2.1 G.2.2.2.2.1 (ax_lays G hc) (ax_ty ci) (ax_tyok hc) (ax_names hc) G.2.2.2.1 G.2.2.2.2.2.1 hP hD hS q0 (ax_wget (ax_f_spec ha)) hc j hj (va_Nw.use rfl (G.2.2.2.2.2.2.2.2.1 _ hw)) (fun _ h9 => h9) hfin (ax_tyok hc j hj) (ax_narrow hn) (ax_fits hfit) (by simpa using hl0) d (fun H1 locs1 hP1 hD1 hS1 => k H1 locs1 ls (ax_wsetFP hP1) (ax_wsetFD hD1) hS1 hl)
end AXR
end
section
/-! THE ABSTRACT LAYER, 3: the parts of a picture, calls, answers -/
def ax_m (h hc : ax_H) : ax_H := h.map (fun q => (q.1, ((ax_f q.1 hc).map Prod.snd).getD q.2))
def ax_sub : ax_H → ax_H → Prop
  | [], _ => True
  | q :: r, h => (ax_f q.1 h).map Prod.snd = some q.2 ∧ ax_sub r h
theorem ax_sub_at : ∀ {hc h : ax_H}, ax_sub hc h → ∀ q ∈ hc, ∃ i : Nat, h[i]? = some q
  | [], _, _, q, hq => absurd hq List.not_mem_nil
  | x :: r, h, hs, q, hq => by
    rcases List.mem_cons.mp hq with e | e
    · subst e
      cases hf : ax_f q.1 h with
      | none => have := hs.1; rw [hf] at this; simp at this
      | some w =>
        obtain ⟨i, e0⟩ := w
        have h1 := hs.1
        rw [hf] at h1
        simp only [Option.map_some, Option.some.injEq] at h1
        exact ⟨i, by rw [ax_f_spec hf, h1]⟩
    · exact ax_sub_at hs.2 q e
theorem ax_wat {cid : Nat → ClassId} {ad : Nat → Nat} {h : ax_H} {i : Nat} {x : Nat × va_E} (hx : (ax_w cid ad h)[i]? = some x) : ∃ q : Nat × ax_E, h[i]? = some q ∧ x = (ad q.1, ax_e cid ad q.2) := by
  unfold ax_w at hx
  rw [List.getElem?_map] at hx
  cases hq : h[i]? with
  | none => rw [hq] at hx; simp at hx
  | some q => rw [hq] at hx; exact ⟨q, rfl, (Option.some.inj hx).symm⟩
theorem ax_subP {D : va_G} {cid : Nat → ClassId} {ad : Nat → Nat} {h hc : ax_H} {H : Heap} (hP : va_P D ax_cl (ax_w cid ad h) H) (hs : ax_sub hc h) : va_P D ax_cl (ax_w cid ad hc) H := by
  intro k x hx
  obtain ⟨q, hq, rfl⟩ := ax_wat hx
  obtain ⟨i, hi⟩ := ax_sub_at hs q (List.mem_of_getElem? hq)
  exact hP i _ (ax_wget (k := q.1) (e := q.2) hi)
theorem ax_subD {A : Nat → Prop} {cid : Nat → ClassId} {ad : Nat → Nat} {h hc : ax_H} (hD : va_D A (ax_w cid ad h)) (hs : ax_sub hc h) (hn : va_nd (hc.map Prod.fst) = true) : va_D A (ax_w cid ad hc) := by
  refine ⟨fun i j x y hx hy hxy => ?_, fun k x hx => ?_⟩
  · obtain ⟨q, hq, rfl⟩ := ax_wat hx
    obtain ⟨r, hr, rfl⟩ := ax_wat hy
    obtain ⟨i', hi⟩ := ax_sub_at hs q (List.mem_of_getElem? hq)
    obtain ⟨j', hj⟩ := ax_sub_at hs r (List.mem_of_getElem? hr)
    have e := hD.1 i' j' _ _ (ax_wget (k := q.1) (e := q.2) hi) (ax_wget (k := r.1) (e := r.2) hj) hxy
    subst e
    have e2 : q = r := Option.some.inj (hi.symm.trans hj)
    subst e2
    exact va_nd_inj _ hn i j q.1 (by rw [List.getElem?_map, hq]; rfl) (by rw [List.getElem?_map, hr]; rfl)
  · obtain ⟨q, hq, rfl⟩ := ax_wat hx
    obtain ⟨i, hi⟩ := ax_sub_at hs q (List.mem_of_getElem? hq)
    exact hD.2 i _ (ax_wget (k := q.1) (e := q.2) hi)
theorem ax_f_none {k : Nat} : ∀ {h : ax_H}, ax_f k h = none → k ∉ h.map Prod.fst
  | [], _ => by simp
  | q :: h, hh => by
    unfold ax_f at hh
    cases hb : Nat.beq q.1 k with
    | true => rw [hb] at hh; simp at hh
    | false =>
      rw [hb] at hh
      simp only [cond_false, Option.map_eq_none_iff] at hh
      have h1 := ax_f_none hh
      intro hm
      rcases List.mem_cons.mp hm with e | e
      · have : Nat.beq q.1 k = true := by rw [← e]; exact Nat.beq_refl _
        rw [hb] at this
        cases this
      · exact h1 e
theorem ax_subA {A : Nat → Prop} {cid : Nat → ClassId} {ad : Nat → Nat} {h hc : ax_H} {H0 H : Heap} {locs : List Loc} (hD : va_D A (ax_w cid ad h)) (hS : va_S A H0 H locs) (hA : ∀ q, H0.size ≤ q → A q) (hs : ax_sub hc h) : ∀ q, va_A (ax_w cid ad hc) H.size q → A q := by
  intro q hq
  rcases hq with ⟨k, e, h1⟩ | h1
  · obtain ⟨r, hr, e1⟩ := ax_wat h1
    obtain ⟨i, hi⟩ := ax_sub_at hs r (List.mem_of_getElem? hr)
    have := hD.2 i _ (ax_wget (k := r.1) (e := r.2) hi)
    have e2 : q = ad r.1 := congrArg Prod.fst e1
    rw [e2]
    exact this
  · exact hA q (Nat.le_trans hS.1 h1)
theorem ax_mat {h hc : ax_H} {i : Nat} {q : Nat × ax_E} (hq : (ax_m h hc)[i]? = some q) : ∃ e : ax_E, h[i]? = some (q.1, e) ∧ ((∃ j : Nat, hc[j]? = some q) ∨ (q.1 ∉ hc.map Prod.fst ∧ q.2 = e)) := by
  unfold ax_m at hq
  rw [List.getElem?_map] at hq
  cases hx : h[i]? with
  | none => rw [hx] at hq; simp at hq
  | some x =>
    rw [hx] at hq
    have e1 : (x.1, ((ax_f x.1 hc).map Prod.snd).getD x.2) = q := Option.some.inj hq
    cases hf : ax_f x.1 hc with
    | none =>
      rw [hf] at e1
      have e2 : q = (x.1, x.2) := e1.symm
      subst e2
      exact ⟨x.2, rfl, Or.inr ⟨ax_f_none hf, rfl⟩⟩
    | some w =>
      obtain ⟨j, e0⟩ := w
      rw [hf] at e1
      have e2 : q = (x.1, e0) := e1.symm
      subst e2
      exact ⟨x.2, rfl, Or.inl ⟨j, ax_f_spec hf⟩⟩
theorem ax_join {A : Nat → Prop} {D : va_G} {cid : Nat → ClassId} {ad : Nat → Nat} {h hc hc' : ax_H} {H H1 : Heap} (hP : va_P D ax_cl (ax_w cid ad h) H) (hD : va_D A (ax_w cid ad h)) (hs : ax_sub hc h) (hkeys : hc'.map Prod.fst = hc.map Prod.fst)
    (hk : ∀ q : Nat, q < H.size → ¬ va_A (ax_w cid ad hc) H.size q → H1[q]? = H[q]?) (hP1 : va_P D ax_cl (ax_w cid ad hc') H1) : va_P D ax_cl (ax_w cid ad (ax_m h hc')) H1 ∧ va_D A (ax_w cid ad (ax_m h hc')) := by
  refine ⟨fun k x hx => ?_, fun i j x y hx hy hxy => ?_, fun k x hx => ?_⟩
  · obtain ⟨q, hq, rfl⟩ := ax_wat hx
    obtain ⟨e, he, hor⟩ := ax_mat hq
    rcases hor with ⟨j, hj⟩ | ⟨hne, hee⟩
    · exact hP1 j _ (ax_wget (k := q.1) (e := q.2) hj)
    · have hat := hP k _ (ax_wget (cid := cid) (ad := ad) he)
      rw [hee]
      refine va_at.kept hat (hk _ hat.lt ?_)
      rintro (⟨k2, e2, h2⟩ | h2)
      · obtain ⟨r, hr, er⟩ := ax_wat h2
        obtain ⟨i', hi'⟩ := ax_sub_at hs r (List.mem_of_getElem? hr)
        have ead : ad q.1 = ad r.1 := congrArg Prod.fst er
        have e3 := hD.1 k i' _ _ (ax_wget (cid := cid) (ad := ad) he) (ax_wget (k := r.1) (e := r.2) hi') ead
        subst e3
        have e4 : (q.1, e) = r := Option.some.inj (he.symm.trans hi')
        apply hne
        rw [hkeys]
        exact List.mem_map.mpr ⟨r, List.mem_of_getElem? hr, by rw [← e4]⟩
      · exact absurd hat.lt (Nat.not_lt.mpr h2)
  · obtain ⟨q, hq, rfl⟩ := ax_wat hx
    obtain ⟨r, hr, rfl⟩ := ax_wat hy
    obtain ⟨e1, he1, -⟩ := ax_mat hq
    obtain ⟨e2, he2, -⟩ := ax_mat hr
    exact hD.1 i j _ _ (ax_wget (cid := cid) (ad := ad) he1) (ax_wget (cid := cid) (ad := ad) he2) hxy
  · obtain ⟨q, hq, rfl⟩ := ax_wat hx
    obtain ⟨e1, he1, -⟩ := ax_mat hq
    have hz := hD.2 k _ (ax_wget (cid := cid) (ad := ad) he1)
    exact hz
section AXC
variable {p : Program} {l : Launch} {e : Env} {R : Room} {s : State} {m : MethodId} {args : Array Value} {below : List Frame} {meth : Method} {c : Code} {cells slots : Nat} {Q : State → Prop}
variable {D : va_G} {cid : Nat → ClassId} {ad : Nat → Nat} {A : Nat → Prop} {nL : Nat} {Ts : List Cond} {own : String} {cc : ByteArray}
variable {pc : Nat} {lv : List (Nat × Value)} {st : List Value} {h : ax_H}
theorem ax_pre (G : ax_G p s m args meth c Ts own cc nL D cid ad A) {hc : ax_H} {H : Heap} {locs : List Loc} (hP : va_P D ax_cl (ax_w cid ad h) H) (hD : va_D A (ax_w cid ad h)) (hS : va_S A s.heap H locs) (hs : ax_sub hc h) (hn : va_nd (hc.map Prod.fst) = true) {U : State} (hU : U.heap = H) (hW : s.WarmedH U.vm) : ax_Pre D cid ad hc H.size U := by
  obtain ⟨-, -, -, -, -, hK, hA, -, hN, -, hX⟩ := G
  refine ⟨by rw [hU], by rw [hU]; exact ax_subP hP hs, va_K.moved hW.alike hK, (ax_subD hD hs hn).weaken (fun _ _ _ _ => trivial), ax_nest_warm hW hN, ?_⟩
  rw [hU]
  exact (hX.kept hS.2.1).moved hW |>.narrow (ax_subA hD hS hA hs)
theorem ax_blind {as : List Value} {hc : ax_H} {sz : Nat} : FrameBlind (va_Pc as (ax_Pre D cid ad hc sz)) := by
  intro a U g mk q
  obtain ⟨q0, q1, qP, qK, qD, qN, qX⟩ := q
  exact ⟨q0, q1, qP, va_K.moved (u := U) (U := U.calling g mk a) (Vm.Alike.refl U.vm) qK, qD, ax_nest_same (u := U) (U := U.calling g mk a) rfl qN, qX.same (u := U) (U := U.calling g mk a) rfl⟩
theorem ax_goes (G : ax_G p s m args meth c Ts own cc nL D cid ad A) {hc : ax_H} {H : Heap} {locs : List Loc} {ls : Array Slot} {st0 : List Value} {a : Array Value} {Qa : Option Value → ax_H → Prop}
    (hP : va_P D ax_cl (ax_w cid ad h) H) (hD : va_D A (ax_w cid ad h)) (hS : va_S A s.heap H locs) (hl : lv_has ls nL (ax_l ad lv)) (hs : ax_sub hc h)
    (hr : va_Run p l e R s m args below meth c H locs cells slots 0 0 (F0 m pc ls st0) (st.map (ax_v ad)) (ax_Post D cid ad hc H.size Qa a) (va_A (ax_w cid ad hc) H.size))
    (kk : ∀ (r : Option Value) (hc' : ax_H), Qa r hc' → hc'.map Prod.fst = hc.map Prod.fst → ax_V p l e R s m args below meth c D cid ad A nL cells slots Q (pc + 3) lv (r.toList ++ st) (ax_m h hc')) : W p l e R s m args below meth c H locs cells slots Q (F0 m pc ls st0) := by
  have hFc := ax_subA hD hS G.2.2.2.2.2.2.1 hs
  intro T hT X
  obtain ⟨v, st₀, t, T', L, h0, X', hL, e1, e2, ⟨⟨r, hc', hv, hq, hkeys, hP1, hD1⟩, hz, hk⟩, stp⟩ := hr T hT X
  cases hv
  rw [h0] at hz hk
  obtain ⟨hP2, hD2⟩ := ax_join hP hD hs hkeys hk hP1
  have hS2 : va_S A s.heap T'.heap (locs ++ L) := ⟨Nat.le_trans hS.1 (by rw [e1]; exact hz), fun q h1 h2 => by rw [e1, hk q (Nat.lt_of_lt_of_le h1 hS.1) (fun z => h2 (hFc q z))]; exact hS.2.1 q h1 h2, fun q hq => by
      rcases List.mem_append.mp hq with h | h
      · exact hS.2.2 q h
      · exact hFc _ (hL q h)⟩
  obtain ⟨t2, a1, b1⟩ := kk r hc' hq hkeys T'.heap (locs ++ L) ls (by rw [e1]; exact hP2) hD2 hS2 hl T' rfl X'
  refine ⟨t2, stp t2 ?_, b1⟩
  have e3 : (r.toList ++ st).map (ax_v ad) = (r.map (ax_v ad)).toList ++ st.map (ax_v ad) := by cases r <;> rfl
  rw [e3] at a1
  exact a1
theorem ax_goodIn (G : ax_G p s m args meth c Ts own cc nL D cid ad A) {y : MethodName} {bytes : ByteArray} {maxL : Nat} {ret : Option FieldType} (hcode : Cond.code y bytes maxL ret ∈ ax_big) : GoodIn Ts (Cond.code y bytes maxL ret :: ax_big) := by
  intro w hw
  have h1 : w ∈ ax_big := by
    rcases List.mem_cons.mp hw with e | e
    · rw [e]; exact hcode
    · exact e
  exact ⟨G.2.2.2.2.2.2.2.2.2.1 w h1, good_of_word (ax_good w h1)⟩
set_option maxHeartbeats 1000000 in
/-- a call of a method of an object -/
theorem ax_callV (G : ax_G p s m args meth c Ts own cc nL D cid ad A) {C : String} {y : MethodName} {bytes : ByteArray} {maxL : Nat} {ret : Option FieldType} {kr n i b q0 ci : Nat} {as' : List Value} {hc : ax_H} {Qa : Option Value → ax_H → Prop} {fs : List Value} {T : u_T} {N : Nat} {st0 : List Value}
    (ct : ax_CT l y bytes maxL ret kr (.ref b :: as') hc Qa) (d : decode cc pc = .ok (.invokevirtual i, 3)) (hst : st0 = as'.reverse ++ .ref b :: st) (hs : ax_sub hc h) (hn : va_nd (hc.map Prod.fst) = true)
    (hb : ax_f b h = some (q0, .inr (ci, fs))) (hcl : ax_cl[ci]? = some (C, T, N)) (hcode : Cond.code y bytes maxL ret ∈ ax_big) (hw : Cond.methodLink own i y ∈ ax_big ∧ Cond.instanceMethod y ∈ ax_big ∧ Cond.selects C y y ∈ ax_big ∧ Cond.initialized C ∈ ax_big)
    (hd : y.cls = C ∧ y.cls ≠ "java/lang/invoke/MethodHandle" ∧ y.cls ≠ "java/lang/invoke/VarHandle" ∧ (parseMethodDescriptor y.desc).map (fun d => d.parameters.length) = some n) (hlen : as'.length = n)
    (hR : kr + 1 ≤ R.frames ∧ 8 + (maxL + 11) + 40 * kr ≤ R.locals) (hwt : (st.map fun v => v.category).sum ≤ 8) (hf : cells ≤ R.cells ∧ slots ≤ R.slots)
    (kk : ∀ (r : Option Value) (hc' : ax_H), Qa r hc' → hc'.map Prod.fst = hc.map Prod.fst → ax_V p l e R s m args below meth c D cid ad A nL cells slots Q (pc + 3) lv (r.toList ++ st) (ax_m h hc')) : ax_V p l e R s m args below meth c D cid ad A nL cells slots Q pc lv st0 h := by
  intro H locs ls hP hD hS hl
  subst hst
  have hG := ax_goodIn G hcode
  obtain ⟨w1, w2, w3, w4⟩ := hw
  obtain ⟨hyc, hd1⟩ := hd
  subst hyc
  refine ax_goes (cid := cid) (ad := ad) (hc := hc) (Qa := Qa) (a := (.ref (ad b) :: as'.map (ax_v ad)).toArray) G hP hD hS hl hs ?_ kk
  refine va_runV (n := n) (As := as'.map (ax_v ad)) (b := ad b) (C := y.cls) (Ts := Ts) (own := own) (index := i) ⟨G.1, G.2.1, G.2.2.1, G.2.2.2.1, G.2.2.2.2.1⟩ (ct D cid ad H.size) ⟨callB_of n G.2.2.2.2.1 hG rfl rfl rfl (ax_say G w4) (ax_say G w1) hd1 hR, ax_say G w2, ax_say G w3⟩ ⟨ax_blind, va_recv G.2.2.2.2.2.1 hP hcl (ax_wget (ax_f_spec hb)), fun U hU hW => ⟨rfl, ax_pre G hP hD hS hs hn hU hW⟩⟩ rfl (by rw [List.length_map]; exact hlen) hl.1 (by simp [F0, List.map_reverse, ax_v]) (lv_room (by rw [List.map_map, show ((fun v : Value => v.category) ∘ ax_v ad) = fun v => v.category from funext (ax_vc ad)]; exact hwt)) d hf
set_option maxHeartbeats 1000000 in
/-- a call of a static method -/
theorem ax_callS (G : ax_G p s m args meth c Ts own cc nL D cid ad A) {y : MethodName} {bytes : ByteArray} {maxL : Nat} {ret : Option FieldType} {kr n i : Nat} {as : List Value} {hc : ax_H} {Qa : Option Value → ax_H → Prop} {st0 : List Value}
    (ct : ax_CT l y bytes maxL ret kr as hc Qa) (d : decode cc pc = .ok (.invokestatic i, 3)) (hst : st0 = as.reverse ++ st) (hs : ax_sub hc h) (hn : va_nd (hc.map Prod.fst) = true)
    (hcode : Cond.code y bytes maxL ret ∈ ax_big) (hw : Cond.methodLink own i y ∈ ax_big ∧ Cond.static y ∈ ax_big ∧ Cond.initialized y.cls ∈ ax_big)
    (hd : y.cls ≠ "java/lang/invoke/MethodHandle" ∧ y.cls ≠ "java/lang/invoke/VarHandle" ∧ (parseMethodDescriptor y.desc).map (fun d => d.parameters.length) = some n) (hlen : as.length = n)
    (hR : kr + 1 ≤ R.frames ∧ 8 + (maxL + 11) + 40 * kr ≤ R.locals) (hwt : (st.map fun v => v.category).sum ≤ 8) (hf : cells ≤ R.cells ∧ slots ≤ R.slots)
    (kk : ∀ (r : Option Value) (hc' : ax_H), Qa r hc' → hc'.map Prod.fst = hc.map Prod.fst → ax_V p l e R s m args below meth c D cid ad A nL cells slots Q (pc + 3) lv (r.toList ++ st) (ax_m h hc')) : ax_V p l e R s m args below meth c D cid ad A nL cells slots Q pc lv st0 h := by
  intro H locs ls hP hD hS hl
  subst hst
  have hG := ax_goodIn G hcode
  obtain ⟨w1, w2, w3⟩ := hw
  refine ax_goes (cid := cid) (ad := ad) (hc := hc) (Qa := Qa) (a := (as.map (ax_v ad)).toArray) G hP hD hS hl hs ?_ kk
  refine va_runS (n := n) (As := as.map (ax_v ad)) (Ts := Ts) (own := own) (index := i) ⟨G.1, G.2.1, G.2.2.1, G.2.2.2.1, G.2.2.2.2.1⟩ (ct D cid ad H.size) ⟨callB_of n G.2.2.2.2.1 hG rfl rfl rfl (ax_say G w3) (ax_say G w1) hd hR, ax_say G w2⟩ ⟨ax_blind, fun U hU hW => ⟨rfl, ax_pre G hP hD hS hs hn hU hW⟩⟩ rfl (by rw [List.length_map]; exact hlen) hl.1 (by simp [F0, List.map_reverse]) (lv_room (by rw [List.map_map, show ((fun v : Value => v.category) ∘ ax_v ad) = fun v => v.category from funext (ax_vc ad)]; exact hwt)) d hf
variable {Qc : Array Value → State → Outcome → State → Prop} {Qa : Option Value → ax_H → Prop} {h0 : ax_H}
theorem ax_iret (G : ax_G p s m args meth c Ts own cc nL D cid ad A) (hr : meth.sig.returnType = some .int) (E : ∀ (r : Option Value) (h' : ax_H) (t : State) (H : Heap) (locs : List Loc), Qa r h' → h'.map Prod.fst = h0.map Prod.fst → va_P D ax_cl (ax_w cid ad h') H → va_D A (ax_w cid ad h') → va_S A s.heap H locs → t.heap = H → Qc args s (.returned (r.map (ax_v ad))) t)
    {v : Int32} (d : decode cc pc = .ok (.ireturn, 1)) (hk : h.map Prod.fst = h0.map Prod.fst) (hq : Qa (some (.int v)) h) : ax_V p l e R s m args below meth c D cid ad A nL cells slots (MQ below Qc args s cells slots A) pc lv [.int v] h :=
  fun H locs ls hP hD hS hl => W.iret G.1 G.2.1 hr (fun t ht _ => E (some (.int v)) h t H locs hq hk hP hD hS ht) hS.2.2 d G.2.2.2.2.2.2.2.1
theorem ax_zret (G : ax_G p s m args meth c Ts own cc nL D cid ad A) {ty : FieldType} (hr : meth.sig.returnType = some ty) (E : ∀ (r : Option Value) (h' : ax_H) (t : State) (H : Heap) (locs : List Loc), Qa r h' → h'.map Prod.fst = h0.map Prod.fst → va_P D ax_cl (ax_w cid ad h') H → va_D A (ax_w cid ad h') → va_S A s.heap H locs → t.heap = H → Qc args s (.returned (r.map (ax_v ad))) t)
    {v : Int32} (hnw : narrow ty (.int v) = .int v) (d : decode cc pc = .ok (.ireturn, 1)) (hk : h.map Prod.fst = h0.map Prod.fst) (hq : Qa (some (.int v)) h) : ax_V p l e R s m args below meth c D cid ad A nL cells slots (MQ below Qc args s cells slots A) pc lv [.int v] h :=
  fun H locs ls hP hD hS hl => W.zret G.1 G.2.1 hr hnw (fun t ht _ => E (some (.int v)) h t H locs hq hk hP hD hS ht) hS.2.2 d G.2.2.2.2.2.2.2.1
theorem ax_lret (G : ax_G p s m args meth c Ts own cc nL D cid ad A) (hr : meth.sig.returnType = some .long) (E : ∀ (r : Option Value) (h' : ax_H) (t : State) (H : Heap) (locs : List Loc), Qa r h' → h'.map Prod.fst = h0.map Prod.fst → va_P D ax_cl (ax_w cid ad h') H → va_D A (ax_w cid ad h') → va_S A s.heap H locs → t.heap = H → Qc args s (.returned (r.map (ax_v ad))) t)
    {v : Int64} (d : decode cc pc = .ok (.lreturn, 1)) (hk : h.map Prod.fst = h0.map Prod.fst) (hq : Qa (some (.long v)) h) : ax_V p l e R s m args below meth c D cid ad A nL cells slots (MQ below Qc args s cells slots A) pc lv [.long v] h :=
  fun H locs ls hP hD hS hl => W.lret G.1 G.2.1 hr (fun t ht _ => E (some (.long v)) h t H locs hq hk hP hD hS ht) hS.2.2 d G.2.2.2.2.2.2.2.1
theorem ax_vret (G : ax_G p s m args meth c Ts own cc nL D cid ad A) (hr : meth.sig.returnType = none) (E : ∀ (r : Option Value) (h' : ax_H) (t : State) (H : Heap) (locs : List Loc), Qa r h' → h'.map Prod.fst = h0.map Prod.fst → va_P D ax_cl (ax_w cid ad h') H → va_D A (ax_w cid ad h') → va_S A s.heap H locs → t.heap = H → Qc args s (.returned (r.map (ax_v ad))) t)
    (d : decode cc pc = .ok (.return_, 1)) (hk : h.map Prod.fst = h0.map Prod.fst) (hq : Qa none h) : ax_V p l e R s m args below meth c D cid ad A nL cells slots (MQ below Qc args s cells slots A) pc lv [] h :=
  fun H locs ls hP hD hS hl => W.vret G.1 G.2.1 hr (fun t ht _ => E none h t H locs hq hk hP hD hS ht) hS.2.2 d G.2.2.2.2.2.2.2.1
theorem ax_eqV {lv' : List (Nat × Value)} {st' : List Value} {h' : ax_H} (k : ax_V p l e R s m args below meth c D cid ad A nL cells slots Q pc lv' st' h') (e1 : lv = lv') (e2 : st = st') (e3 : h = h') : ax_V p l e R s m args below meth c D cid ad A nL cells slots Q pc lv st h := by
  subst e1; subst e2; subst e3; exact k
end AXC
end
section
/-! decode rows: De -/
theorem d_De_init_0 : decode c_De_init 0 = .ok (.aload_n 0, 1) := by decide +kernel
theorem d_De_init_1 : decode c_De_init 1 = .ok (.invokespecial 1, 3) := by decide +kernel
theorem d_De_init_4 : decode c_De_init 4 = .ok (.aload_n 0, 1) := by decide +kernel
theorem d_De_init_5 : decode c_De_init 5 = .ok (.bipush 86, 2) := by decide +kernel
theorem d_De_init_7 : decode c_De_init 7 = .ok (.newarray .long, 2) := by decide +kernel
theorem d_De_init_9 : decode c_De_init 9 = .ok (.putfield 9, 3) := by decide +kernel
theorem d_De_init_12 : decode c_De_init 12 = .ok (.aload_n 0, 1) := by decide +kernel
theorem d_De_init_13 : decode c_De_init 13 = .ok (.iconst 0, 1) := by decide +kernel
theorem d_De_init_14 : decode c_De_init 14 = .ok (.putfield 13, 3) := by decide +kernel
theorem d_De_init_17 : decode c_De_init 17 = .ok (.aload_n 0, 1) := by decide +kernel
theorem d_De_init_18 : decode c_De_init 18 = .ok (.sipush 774, 3) := by decide +kernel
theorem d_De_init_21 : decode c_De_init 21 = .ok (.newarray .byte, 2) := by decide +kernel
theorem d_De_init_23 : decode c_De_init 23 = .ok (.putfield 17, 3) := by decide +kernel
theorem d_De_init_26 : decode c_De_init 26 = .ok (.aload_n 0, 1) := by decide +kernel
theorem d_De_init_27 : decode c_De_init 27 = .ok (.iconst 0, 1) := by decide +kernel
theorem d_De_init_28 : decode c_De_init 28 = .ok (.putfield 21, 3) := by decide +kernel
theorem d_De_init_31 : decode c_De_init 31 = .ok (.aload_n 0, 1) := by decide +kernel
theorem d_De_init_32 : decode c_De_init 32 = .ok (.iconst 1, 1) := by decide +kernel
theorem d_De_init_33 : decode c_De_init 33 = .ok (.putfield 24, 3) := by decide +kernel
theorem d_De_init_36 : decode c_De_init 36 = .ok (.return_, 1) := by decide +kernel
theorem d_De_become_0 : decode c_De_become 0 = .ok (.lload_n 1, 1) := by decide +kernel
theorem d_De_become_1 : decode c_De_become 1 = .ok (.lconst 0, 1) := by decide +kernel
theorem d_De_become_2 : decode c_De_become 2 = .ok (.lcmp, 1) := by decide +kernel
theorem d_De_become_3 : decode c_De_become 3 = .ok (.ifCond .ne 8, 3) := by decide +kernel
theorem d_De_become_6 : decode c_De_become 6 = .ok (.aload_n 0, 1) := by decide +kernel
theorem d_De_become_7 : decode c_De_become 7 = .ok (.invokevirtual 27, 3) := by decide +kernel
theorem d_De_become_10 : decode c_De_become 10 = .ok (.return_, 1) := by decide +kernel
theorem d_De_become_11 : decode c_De_become 11 = .ok (.aload_n 0, 1) := by decide +kernel
theorem d_De_become_12 : decode c_De_become 12 = .ok (.getfield 9, 3) := by decide +kernel
theorem d_De_become_15 : decode c_De_become 15 = .ok (.iconst 0, 1) := by decide +kernel
theorem d_De_become_16 : decode c_De_become 16 = .ok (.lload_n 1, 1) := by decide +kernel
theorem d_De_become_17 : decode c_De_become 17 = .ok (.ldc2_w 30, 3) := by decide +kernel
theorem d_De_become_20 : decode c_De_become 20 = .ok (.lrem, 1) := by decide +kernel
theorem d_De_become_21 : decode c_De_become 21 = .ok (.lastore, 1) := by decide +kernel
theorem d_De_become_22 : decode c_De_become 22 = .ok (.aload_n 0, 1) := by decide +kernel
theorem d_De_become_23 : decode c_De_become 23 = .ok (.getfield 9, 3) := by decide +kernel
theorem d_De_become_26 : decode c_De_become 26 = .ok (.iconst 1, 1) := by decide +kernel
theorem d_De_become_27 : decode c_De_become 27 = .ok (.lload_n 1, 1) := by decide +kernel
theorem d_De_become_28 : decode c_De_become 28 = .ok (.ldc2_w 30, 3) := by decide +kernel
theorem d_De_become_31 : decode c_De_become 31 = .ok (.ldiv, 1) := by decide +kernel
theorem d_De_become_32 : decode c_De_become 32 = .ok (.lastore, 1) := by decide +kernel
theorem d_De_become_33 : decode c_De_become 33 = .ok (.aload_n 0, 1) := by decide +kernel
theorem d_De_become_34 : decode c_De_become 34 = .ok (.aload_n 0, 1) := by decide +kernel
theorem d_De_become_35 : decode c_De_become 35 = .ok (.getfield 9, 3) := by decide +kernel
theorem d_De_become_38 : decode c_De_become 38 = .ok (.iconst 1, 1) := by decide +kernel
theorem d_De_become_39 : decode c_De_become 39 = .ok (.laload, 1) := by decide +kernel
theorem d_De_become_40 : decode c_De_become 40 = .ok (.lconst 0, 1) := by decide +kernel
theorem d_De_become_41 : decode c_De_become 41 = .ok (.lcmp, 1) := by decide +kernel
theorem d_De_become_42 : decode c_De_become 42 = .ok (.ifCond .ne 7, 3) := by decide +kernel
theorem d_De_become_45 : decode c_De_become 45 = .ok (.iconst 1, 1) := by decide +kernel
theorem d_De_become_46 : decode c_De_become 46 = .ok (.goto 4, 3) := by decide +kernel
theorem d_De_become_49 : decode c_De_become 49 = .ok (.iconst 2, 1) := by decide +kernel
theorem d_De_become_50 : decode c_De_become 50 = .ok (.putfield 13, 3) := by decide +kernel
theorem d_De_become_53 : decode c_De_become 53 = .ok (.iload_n 3, 1) := by decide +kernel
theorem d_De_become_54 : decode c_De_become 54 = .ok (.istore 4, 2) := by decide +kernel
theorem d_De_become_56 : decode c_De_become 56 = .ok (.iload 4, 2) := by decide +kernel
theorem d_De_become_58 : decode c_De_become 58 = .ok (.ifCond .le 22, 3) := by decide +kernel
theorem d_De_become_61 : decode c_De_become 61 = .ok (.aload_n 0, 1) := by decide +kernel
theorem d_De_become_62 : decode c_De_become 62 = .ok (.lconst 1, 1) := by decide +kernel
theorem d_De_become_63 : decode c_De_become 63 = .ok (.iload 4, 2) := by decide +kernel
theorem d_De_become_65 : decode c_De_become 65 = .ok (.bipush 29, 2) := by decide +kernel
theorem d_De_become_67 : decode c_De_become 67 = .ok (.invokestatic 32, 3) := by decide +kernel
theorem d_De_become_70 : decode c_De_become 70 = .ok (.lshl, 1) := by decide +kernel
theorem d_De_become_71 : decode c_De_become 71 = .ok (.invokevirtual 38, 3) := by decide +kernel
theorem d_De_become_74 : decode c_De_become 74 = .ok (.iinc 4 (-29), 3) := by decide +kernel
theorem d_De_become_77 : decode c_De_become 77 = .ok (.goto (-21), 3) := by decide +kernel
theorem d_De_become_80 : decode c_De_become 80 = .ok (.iload_n 3, 1) := by decide +kernel
theorem d_De_become_81 : decode c_De_become 81 = .ok (.ineg, 1) := by decide +kernel
theorem d_De_become_82 : decode c_De_become 82 = .ok (.istore 4, 2) := by decide +kernel
theorem d_De_become_84 : decode c_De_become 84 = .ok (.iload 4, 2) := by decide +kernel
theorem d_De_become_86 : decode c_De_become 86 = .ok (.ifCond .le 24, 3) := by decide +kernel
theorem d_De_become_89 : decode c_De_become 89 = .ok (.aload_n 0, 1) := by decide +kernel
theorem d_De_become_90 : decode c_De_become 90 = .ok (.getstatic 42, 3) := by decide +kernel
theorem d_De_become_93 : decode c_De_become 93 = .ok (.iload 4, 2) := by decide +kernel
theorem d_De_become_95 : decode c_De_become 95 = .ok (.bipush 12, 2) := by decide +kernel
theorem d_De_become_97 : decode c_De_become 97 = .ok (.invokestatic 32, 3) := by decide +kernel
theorem d_De_become_100 : decode c_De_become 100 = .ok (.laload, 1) := by decide +kernel
theorem d_De_become_101 : decode c_De_become 101 = .ok (.invokevirtual 38, 3) := by decide +kernel
theorem d_De_become_104 : decode c_De_become 104 = .ok (.iinc 4 (-12), 3) := by decide +kernel
theorem d_De_become_107 : decode c_De_become 107 = .ok (.goto (-23), 3) := by decide +kernel
theorem d_De_become_110 : decode c_De_become 110 = .ok (.aload_n 0, 1) := by decide +kernel
theorem d_De_become_111 : decode c_De_become 111 = .ok (.invokevirtual 45, 3) := by decide +kernel
theorem d_De_become_114 : decode c_De_become 114 = .ok (.aload_n 0, 1) := by decide +kernel
theorem d_De_become_115 : decode c_De_become 115 = .ok (.aload_n 0, 1) := by decide +kernel
theorem d_De_become_116 : decode c_De_become 116 = .ok (.getfield 21, 3) := by decide +kernel
theorem d_De_become_119 : decode c_De_become 119 = .ok (.iload_n 3, 1) := by decide +kernel
theorem d_De_become_120 : decode c_De_become 120 = .ok (.iconst 0, 1) := by decide +kernel
theorem d_De_become_121 : decode c_De_become 121 = .ok (.invokestatic 32, 3) := by decide +kernel
theorem d_De_become_124 : decode c_De_become 124 = .ok (.iadd, 1) := by decide +kernel
theorem d_De_become_125 : decode c_De_become 125 = .ok (.putfield 24, 3) := by decide +kernel
theorem d_De_become_128 : decode c_De_become 128 = .ok (.return_, 1) := by decide +kernel
theorem d_De_becomeZero_0 : decode c_De_becomeZero 0 = .ok (.aload_n 0, 1) := by decide +kernel
theorem d_De_becomeZero_1 : decode c_De_becomeZero 1 = .ok (.iconst 0, 1) := by decide +kernel
theorem d_De_becomeZero_2 : decode c_De_becomeZero 2 = .ok (.putfield 21, 3) := by decide +kernel
theorem d_De_becomeZero_5 : decode c_De_becomeZero 5 = .ok (.aload_n 0, 1) := by decide +kernel
theorem d_De_becomeZero_6 : decode c_De_becomeZero 6 = .ok (.iconst 1, 1) := by decide +kernel
theorem d_De_becomeZero_7 : decode c_De_becomeZero 7 = .ok (.putfield 24, 3) := by decide +kernel
theorem d_De_becomeZero_10 : decode c_De_becomeZero 10 = .ok (.return_, 1) := by decide +kernel
theorem d_De_multiply_0 : decode c_De_multiply 0 = .ok (.lconst 0, 1) := by decide +kernel
theorem d_De_multiply_1 : decode c_De_multiply 1 = .ok (.lstore_n 3, 1) := by decide +kernel
theorem d_De_multiply_2 : decode c_De_multiply 2 = .ok (.iconst 0, 1) := by decide +kernel
theorem d_De_multiply_3 : decode c_De_multiply 3 = .ok (.istore 5, 2) := by decide +kernel
theorem d_De_multiply_5 : decode c_De_multiply 5 = .ok (.iload 5, 2) := by decide +kernel
theorem d_De_multiply_7 : decode c_De_multiply 7 = .ok (.aload_n 0, 1) := by decide +kernel
theorem d_De_multiply_8 : decode c_De_multiply 8 = .ok (.getfield 13, 3) := by decide +kernel
theorem d_De_multiply_11 : decode c_De_multiply 11 = .ok (.if_icmp .ge 44, 3) := by decide +kernel
theorem d_De_multiply_14 : decode c_De_multiply 14 = .ok (.aload_n 0, 1) := by decide +kernel
theorem d_De_multiply_15 : decode c_De_multiply 15 = .ok (.getfield 9, 3) := by decide +kernel
theorem d_De_multiply_18 : decode c_De_multiply 18 = .ok (.iload 5, 2) := by decide +kernel
theorem d_De_multiply_20 : decode c_De_multiply 20 = .ok (.laload, 1) := by decide +kernel
theorem d_De_multiply_21 : decode c_De_multiply 21 = .ok (.lload_n 1, 1) := by decide +kernel
theorem d_De_multiply_22 : decode c_De_multiply 22 = .ok (.lmul, 1) := by decide +kernel
theorem d_De_multiply_23 : decode c_De_multiply 23 = .ok (.lload_n 3, 1) := by decide +kernel
theorem d_De_multiply_24 : decode c_De_multiply 24 = .ok (.ladd, 1) := by decide +kernel
theorem d_De_multiply_25 : decode c_De_multiply 25 = .ok (.lstore 6, 2) := by decide +kernel
theorem d_De_multiply_27 : decode c_De_multiply 27 = .ok (.lload 6, 2) := by decide +kernel
theorem d_De_multiply_29 : decode c_De_multiply 29 = .ok (.ldc2_w 30, 3) := by decide +kernel
theorem d_De_multiply_32 : decode c_De_multiply 32 = .ok (.ldiv, 1) := by decide +kernel
theorem d_De_multiply_33 : decode c_De_multiply 33 = .ok (.lstore_n 3, 1) := by decide +kernel
theorem d_De_multiply_34 : decode c_De_multiply 34 = .ok (.aload_n 0, 1) := by decide +kernel
theorem d_De_multiply_35 : decode c_De_multiply 35 = .ok (.getfield 9, 3) := by decide +kernel
theorem d_De_multiply_38 : decode c_De_multiply 38 = .ok (.iload 5, 2) := by decide +kernel
theorem d_De_multiply_40 : decode c_De_multiply 40 = .ok (.lload 6, 2) := by decide +kernel
theorem d_De_multiply_42 : decode c_De_multiply 42 = .ok (.lload_n 3, 1) := by decide +kernel
theorem d_De_multiply_43 : decode c_De_multiply 43 = .ok (.ldc2_w 30, 3) := by decide +kernel
theorem d_De_multiply_46 : decode c_De_multiply 46 = .ok (.lmul, 1) := by decide +kernel
theorem d_De_multiply_47 : decode c_De_multiply 47 = .ok (.lsub, 1) := by decide +kernel
theorem d_De_multiply_48 : decode c_De_multiply 48 = .ok (.lastore, 1) := by decide +kernel
theorem d_De_multiply_49 : decode c_De_multiply 49 = .ok (.iinc 5 1, 3) := by decide +kernel
theorem d_De_multiply_52 : decode c_De_multiply 52 = .ok (.goto (-47), 3) := by decide +kernel
theorem d_De_multiply_55 : decode c_De_multiply 55 = .ok (.lload_n 3, 1) := by decide +kernel
theorem d_De_multiply_56 : decode c_De_multiply 56 = .ok (.lconst 0, 1) := by decide +kernel
theorem d_De_multiply_57 : decode c_De_multiply 57 = .ok (.lcmp, 1) := by decide +kernel
theorem d_De_multiply_58 : decode c_De_multiply 58 = .ok (.ifCond .eq 35, 3) := by decide +kernel
theorem d_De_multiply_61 : decode c_De_multiply 61 = .ok (.aload_n 0, 1) := by decide +kernel
theorem d_De_multiply_62 : decode c_De_multiply 62 = .ok (.getfield 13, 3) := by decide +kernel
theorem d_De_multiply_65 : decode c_De_multiply 65 = .ok (.aload_n 0, 1) := by decide +kernel
theorem d_De_multiply_66 : decode c_De_multiply 66 = .ok (.getfield 9, 3) := by decide +kernel
theorem d_De_multiply_69 : decode c_De_multiply 69 = .ok (.arraylength, 1) := by decide +kernel
theorem d_De_multiply_70 : decode c_De_multiply 70 = .ok (.if_icmp .ge 23, 3) := by decide +kernel
theorem d_De_multiply_73 : decode c_De_multiply 73 = .ok (.aload_n 0, 1) := by decide +kernel
theorem d_De_multiply_74 : decode c_De_multiply 74 = .ok (.getfield 9, 3) := by decide +kernel
theorem d_De_multiply_77 : decode c_De_multiply 77 = .ok (.aload_n 0, 1) := by decide +kernel
theorem d_De_multiply_78 : decode c_De_multiply 78 = .ok (.getfield 13, 3) := by decide +kernel
theorem d_De_multiply_81 : decode c_De_multiply 81 = .ok (.lload_n 3, 1) := by decide +kernel
theorem d_De_multiply_82 : decode c_De_multiply 82 = .ok (.lastore, 1) := by decide +kernel
theorem d_De_multiply_83 : decode c_De_multiply 83 = .ok (.aload_n 0, 1) := by decide +kernel
theorem d_De_multiply_84 : decode c_De_multiply 84 = .ok (.dup, 1) := by decide +kernel
theorem d_De_multiply_85 : decode c_De_multiply 85 = .ok (.getfield 13, 3) := by decide +kernel
theorem d_De_multiply_88 : decode c_De_multiply 88 = .ok (.iconst 1, 1) := by decide +kernel
theorem d_De_multiply_89 : decode c_De_multiply 89 = .ok (.iadd, 1) := by decide +kernel
theorem d_De_multiply_90 : decode c_De_multiply 90 = .ok (.putfield 13, 3) := by decide +kernel
theorem d_De_multiply_93 : decode c_De_multiply 93 = .ok (.return_, 1) := by decide +kernel
theorem d_De_spell_0 : decode c_De_spell 0 = .ok (.aload_n 0, 1) := by decide +kernel
theorem d_De_spell_1 : decode c_De_spell 1 = .ok (.bipush 9, 2) := by decide +kernel
theorem d_De_spell_3 : decode c_De_spell 3 = .ok (.aload_n 0, 1) := by decide +kernel
theorem d_De_spell_4 : decode c_De_spell 4 = .ok (.getfield 13, 3) := by decide +kernel
theorem d_De_spell_7 : decode c_De_spell 7 = .ok (.iconst 1, 1) := by decide +kernel
theorem d_De_spell_8 : decode c_De_spell 8 = .ok (.isub, 1) := by decide +kernel
theorem d_De_spell_9 : decode c_De_spell 9 = .ok (.imul, 1) := by decide +kernel
theorem d_De_spell_10 : decode c_De_spell 10 = .ok (.putfield 21, 3) := by decide +kernel
theorem d_De_spell_13 : decode c_De_spell 13 = .ok (.aload_n 0, 1) := by decide +kernel
theorem d_De_spell_14 : decode c_De_spell 14 = .ok (.getfield 9, 3) := by decide +kernel
theorem d_De_spell_17 : decode c_De_spell 17 = .ok (.aload_n 0, 1) := by decide +kernel
theorem d_De_spell_18 : decode c_De_spell 18 = .ok (.getfield 13, 3) := by decide +kernel
theorem d_De_spell_21 : decode c_De_spell 21 = .ok (.iconst 1, 1) := by decide +kernel
theorem d_De_spell_22 : decode c_De_spell 22 = .ok (.isub, 1) := by decide +kernel
theorem d_De_spell_23 : decode c_De_spell 23 = .ok (.laload, 1) := by decide +kernel
theorem d_De_spell_24 : decode c_De_spell 24 = .ok (.lstore_n 1, 1) := by decide +kernel
theorem d_De_spell_25 : decode c_De_spell 25 = .ok (.iconst 0, 1) := by decide +kernel
theorem d_De_spell_26 : decode c_De_spell 26 = .ok (.istore_n 3, 1) := by decide +kernel
theorem d_De_spell_27 : decode c_De_spell 27 = .ok (.iload_n 3, 1) := by decide +kernel
theorem d_De_spell_28 : decode c_De_spell 28 = .ok (.bipush 9, 2) := by decide +kernel
theorem d_De_spell_30 : decode c_De_spell 30 = .ok (.if_icmp .ge 31, 3) := by decide +kernel
theorem d_De_spell_33 : decode c_De_spell 33 = .ok (.lload_n 1, 1) := by decide +kernel
theorem d_De_spell_34 : decode c_De_spell 34 = .ok (.lconst 0, 1) := by decide +kernel
theorem d_De_spell_35 : decode c_De_spell 35 = .ok (.lcmp, 1) := by decide +kernel
theorem d_De_spell_36 : decode c_De_spell 36 = .ok (.ifCond .le 25, 3) := by decide +kernel
theorem d_De_spell_39 : decode c_De_spell 39 = .ok (.aload_n 0, 1) := by decide +kernel
theorem d_De_spell_40 : decode c_De_spell 40 = .ok (.dup, 1) := by decide +kernel
theorem d_De_spell_41 : decode c_De_spell 41 = .ok (.getfield 21, 3) := by decide +kernel
theorem d_De_spell_44 : decode c_De_spell 44 = .ok (.iconst 1, 1) := by decide +kernel
theorem d_De_spell_45 : decode c_De_spell 45 = .ok (.iadd, 1) := by decide +kernel
theorem d_De_spell_46 : decode c_De_spell 46 = .ok (.putfield 21, 3) := by decide +kernel
theorem d_De_spell_49 : decode c_De_spell 49 = .ok (.lload_n 1, 1) := by decide +kernel
theorem d_De_spell_50 : decode c_De_spell 50 = .ok (.ldc2_w 48, 3) := by decide +kernel
theorem d_De_spell_53 : decode c_De_spell 53 = .ok (.ldiv, 1) := by decide +kernel
theorem d_De_spell_54 : decode c_De_spell 54 = .ok (.lstore_n 1, 1) := by decide +kernel
theorem d_De_spell_55 : decode c_De_spell 55 = .ok (.iinc 3 1, 3) := by decide +kernel
theorem d_De_spell_58 : decode c_De_spell 58 = .ok (.goto (-31), 3) := by decide +kernel
theorem d_De_spell_61 : decode c_De_spell 61 = .ok (.iconst 0, 1) := by decide +kernel
theorem d_De_spell_62 : decode c_De_spell 62 = .ok (.istore_n 3, 1) := by decide +kernel
theorem d_De_spell_63 : decode c_De_spell 63 = .ok (.iload_n 3, 1) := by decide +kernel
theorem d_De_spell_64 : decode c_De_spell 64 = .ok (.aload_n 0, 1) := by decide +kernel
theorem d_De_spell_65 : decode c_De_spell 65 = .ok (.getfield 21, 3) := by decide +kernel
theorem d_De_spell_68 : decode c_De_spell 68 = .ok (.if_icmp .ge 52, 3) := by decide +kernel
theorem d_De_spell_71 : decode c_De_spell 71 = .ok (.iload_n 3, 1) := by decide +kernel
theorem d_De_spell_72 : decode c_De_spell 72 = .ok (.bipush 9, 2) := by decide +kernel
theorem d_De_spell_74 : decode c_De_spell 74 = .ok (.irem, 1) := by decide +kernel
theorem d_De_spell_75 : decode c_De_spell 75 = .ok (.ifCond .ne 13, 3) := by decide +kernel
theorem d_De_spell_78 : decode c_De_spell 78 = .ok (.aload_n 0, 1) := by decide +kernel
theorem d_De_spell_79 : decode c_De_spell 79 = .ok (.getfield 9, 3) := by decide +kernel
theorem d_De_spell_82 : decode c_De_spell 82 = .ok (.iload_n 3, 1) := by decide +kernel
theorem d_De_spell_83 : decode c_De_spell 83 = .ok (.bipush 9, 2) := by decide +kernel
theorem d_De_spell_85 : decode c_De_spell 85 = .ok (.idiv, 1) := by decide +kernel
theorem d_De_spell_86 : decode c_De_spell 86 = .ok (.laload, 1) := by decide +kernel
theorem d_De_spell_87 : decode c_De_spell 87 = .ok (.lstore_n 1, 1) := by decide +kernel
theorem d_De_spell_88 : decode c_De_spell 88 = .ok (.aload_n 0, 1) := by decide +kernel
theorem d_De_spell_89 : decode c_De_spell 89 = .ok (.getfield 17, 3) := by decide +kernel
theorem d_De_spell_92 : decode c_De_spell 92 = .ok (.aload_n 0, 1) := by decide +kernel
theorem d_De_spell_93 : decode c_De_spell 93 = .ok (.getfield 21, 3) := by decide +kernel
theorem d_De_spell_96 : decode c_De_spell 96 = .ok (.iconst 1, 1) := by decide +kernel
theorem d_De_spell_97 : decode c_De_spell 97 = .ok (.isub, 1) := by decide +kernel
theorem d_De_spell_98 : decode c_De_spell 98 = .ok (.iload_n 3, 1) := by decide +kernel
theorem d_De_spell_99 : decode c_De_spell 99 = .ok (.isub, 1) := by decide +kernel
theorem d_De_spell_100 : decode c_De_spell 100 = .ok (.lload_n 1, 1) := by decide +kernel
theorem d_De_spell_101 : decode c_De_spell 101 = .ok (.ldc2_w 48, 3) := by decide +kernel
theorem d_De_spell_104 : decode c_De_spell 104 = .ok (.lrem, 1) := by decide +kernel
theorem d_De_spell_105 : decode c_De_spell 105 = .ok (.l2i, 1) := by decide +kernel
theorem d_De_spell_106 : decode c_De_spell 106 = .ok (.i2b, 1) := by decide +kernel
theorem d_De_spell_107 : decode c_De_spell 107 = .ok (.bastore, 1) := by decide +kernel
theorem d_De_spell_108 : decode c_De_spell 108 = .ok (.lload_n 1, 1) := by decide +kernel
theorem d_De_spell_109 : decode c_De_spell 109 = .ok (.ldc2_w 48, 3) := by decide +kernel
theorem d_De_spell_112 : decode c_De_spell 112 = .ok (.ldiv, 1) := by decide +kernel
theorem d_De_spell_113 : decode c_De_spell 113 = .ok (.lstore_n 1, 1) := by decide +kernel
theorem d_De_spell_114 : decode c_De_spell 114 = .ok (.iinc 3 1, 3) := by decide +kernel
theorem d_De_spell_117 : decode c_De_spell 117 = .ok (.goto (-54), 3) := by decide +kernel
theorem d_De_spell_120 : decode c_De_spell 120 = .ok (.return_, 1) := by decide +kernel
theorem d_De_digitAt_0 : decode c_De_digitAt 0 = .ok (.iload_n 1, 1) := by decide +kernel
theorem d_De_digitAt_1 : decode c_De_digitAt 1 = .ok (.ifCond .lt 20, 3) := by decide +kernel
theorem d_De_digitAt_4 : decode c_De_digitAt 4 = .ok (.iload_n 1, 1) := by decide +kernel
theorem d_De_digitAt_5 : decode c_De_digitAt 5 = .ok (.aload_n 0, 1) := by decide +kernel
theorem d_De_digitAt_6 : decode c_De_digitAt 6 = .ok (.getfield 21, 3) := by decide +kernel
theorem d_De_digitAt_9 : decode c_De_digitAt 9 = .ok (.if_icmp .ge 12, 3) := by decide +kernel
theorem d_De_digitAt_12 : decode c_De_digitAt 12 = .ok (.aload_n 0, 1) := by decide +kernel
theorem d_De_digitAt_13 : decode c_De_digitAt 13 = .ok (.getfield 17, 3) := by decide +kernel
theorem d_De_digitAt_16 : decode c_De_digitAt 16 = .ok (.iload_n 1, 1) := by decide +kernel
theorem d_De_digitAt_17 : decode c_De_digitAt 17 = .ok (.baload, 1) := by decide +kernel
theorem d_De_digitAt_18 : decode c_De_digitAt 18 = .ok (.goto 4, 3) := by decide +kernel
theorem d_De_digitAt_21 : decode c_De_digitAt 21 = .ok (.iconst 0, 1) := by decide +kernel
theorem d_De_digitAt_22 : decode c_De_digitAt 22 = .ok (.ireturn, 1) := by decide +kernel
theorem d_De_neededFrom_0 : decode c_De_neededFrom 0 = .ok (.aload_n 0, 1) := by decide +kernel
theorem d_De_neededFrom_1 : decode c_De_neededFrom 1 = .ok (.getfield 21, 3) := by decide +kernel
theorem d_De_neededFrom_4 : decode c_De_neededFrom 4 = .ok (.iconst 1, 1) := by decide +kernel
theorem d_De_neededFrom_5 : decode c_De_neededFrom 5 = .ok (.isub, 1) := by decide +kernel
theorem d_De_neededFrom_6 : decode c_De_neededFrom 6 = .ok (.istore_n 2, 1) := by decide +kernel
theorem d_De_neededFrom_7 : decode c_De_neededFrom 7 = .ok (.iload_n 2, 1) := by decide +kernel
theorem d_De_neededFrom_8 : decode c_De_neededFrom 8 = .ok (.ifCond .lt 29, 3) := by decide +kernel
theorem d_De_neededFrom_11 : decode c_De_neededFrom 11 = .ok (.iload_n 2, 1) := by decide +kernel
theorem d_De_neededFrom_12 : decode c_De_neededFrom 12 = .ok (.iload_n 1, 1) := by decide +kernel
theorem d_De_neededFrom_13 : decode c_De_neededFrom 13 = .ok (.if_icmp .lt 24, 3) := by decide +kernel
theorem d_De_neededFrom_16 : decode c_De_neededFrom 16 = .ok (.aload_n 0, 1) := by decide +kernel
theorem d_De_neededFrom_17 : decode c_De_neededFrom 17 = .ok (.getfield 17, 3) := by decide +kernel
theorem d_De_neededFrom_20 : decode c_De_neededFrom 20 = .ok (.iload_n 2, 1) := by decide +kernel
theorem d_De_neededFrom_21 : decode c_De_neededFrom 21 = .ok (.baload, 1) := by decide +kernel
theorem d_De_neededFrom_22 : decode c_De_neededFrom 22 = .ok (.ifCond .eq 9, 3) := by decide +kernel
theorem d_De_neededFrom_25 : decode c_De_neededFrom 25 = .ok (.iload_n 2, 1) := by decide +kernel
theorem d_De_neededFrom_26 : decode c_De_neededFrom 26 = .ok (.iconst 1, 1) := by decide +kernel
theorem d_De_neededFrom_27 : decode c_De_neededFrom 27 = .ok (.iadd, 1) := by decide +kernel
theorem d_De_neededFrom_28 : decode c_De_neededFrom 28 = .ok (.iload_n 1, 1) := by decide +kernel
theorem d_De_neededFrom_29 : decode c_De_neededFrom 29 = .ok (.isub, 1) := by decide +kernel
theorem d_De_neededFrom_30 : decode c_De_neededFrom 30 = .ok (.ireturn, 1) := by decide +kernel
theorem d_De_neededFrom_31 : decode c_De_neededFrom 31 = .ok (.iinc 2 (-1), 3) := by decide +kernel
theorem d_De_neededFrom_34 : decode c_De_neededFrom 34 = .ok (.goto (-27), 3) := by decide +kernel
theorem d_De_neededFrom_37 : decode c_De_neededFrom 37 = .ok (.iconst 0, 1) := by decide +kernel
theorem d_De_neededFrom_38 : decode c_De_neededFrom 38 = .ok (.ireturn, 1) := by decide +kernel
theorem d_De_round_0 : decode c_De_round 0 = .ok (.iload_n 1, 1) := by decide +kernel
theorem d_De_round_1 : decode c_De_round 1 = .ok (.aload_n 0, 1) := by decide +kernel
theorem d_De_round_2 : decode c_De_round 2 = .ok (.getfield 21, 3) := by decide +kernel
theorem d_De_round_5 : decode c_De_round 5 = .ok (.if_icmp .lt 4, 3) := by decide +kernel
theorem d_De_round_8 : decode c_De_round 8 = .ok (.return_, 1) := by decide +kernel
theorem d_De_round_9 : decode c_De_round 9 = .ok (.iload_n 1, 1) := by decide +kernel
theorem d_De_round_10 : decode c_De_round 10 = .ok (.ifCond .ge 8, 3) := by decide +kernel
theorem d_De_round_13 : decode c_De_round 13 = .ok (.aload_n 0, 1) := by decide +kernel
theorem d_De_round_14 : decode c_De_round 14 = .ok (.invokevirtual 27, 3) := by decide +kernel
theorem d_De_round_17 : decode c_De_round 17 = .ok (.return_, 1) := by decide +kernel
theorem d_De_round_18 : decode c_De_round 18 = .ok (.aload_n 0, 1) := by decide +kernel
theorem d_De_round_19 : decode c_De_round 19 = .ok (.getfield 17, 3) := by decide +kernel
theorem d_De_round_22 : decode c_De_round 22 = .ok (.iload_n 1, 1) := by decide +kernel
theorem d_De_round_23 : decode c_De_round 23 = .ok (.baload, 1) := by decide +kernel
theorem d_De_round_24 : decode c_De_round 24 = .ok (.istore_n 2, 1) := by decide +kernel
theorem d_De_round_25 : decode c_De_round 25 = .ok (.iload_n 2, 1) := by decide +kernel
theorem d_De_round_26 : decode c_De_round 26 = .ok (.iconst 5, 1) := by decide +kernel
theorem d_De_round_27 : decode c_De_round 27 = .ok (.if_icmp .ne 17, 3) := by decide +kernel
theorem d_De_round_30 : decode c_De_round 30 = .ok (.aload_n 0, 1) := by decide +kernel
theorem d_De_round_31 : decode c_De_round 31 = .ok (.iload_n 1, 1) := by decide +kernel
theorem d_De_round_32 : decode c_De_round 32 = .ok (.iconst 1, 1) := by decide +kernel
theorem d_De_round_33 : decode c_De_round 33 = .ok (.iadd, 1) := by decide +kernel
theorem d_De_round_34 : decode c_De_round 34 = .ok (.invokevirtual 50, 3) := by decide +kernel
theorem d_De_round_37 : decode c_De_round 37 = .ok (.ifCond .ne 7, 3) := by decide +kernel
theorem d_De_round_40 : decode c_De_round 40 = .ok (.iconst 1, 1) := by decide +kernel
theorem d_De_round_41 : decode c_De_round 41 = .ok (.goto 4, 3) := by decide +kernel
theorem d_De_round_44 : decode c_De_round 44 = .ok (.iconst 0, 1) := by decide +kernel
theorem d_De_round_45 : decode c_De_round 45 = .ok (.istore_n 3, 1) := by decide +kernel
theorem d_De_round_46 : decode c_De_round 46 = .ok (.iload_n 3, 1) := by decide +kernel
theorem d_De_round_47 : decode c_De_round 47 = .ok (.ifCond .eq 24, 3) := by decide +kernel
theorem d_De_round_50 : decode c_De_round 50 = .ok (.aload_n 0, 1) := by decide +kernel
theorem d_De_round_51 : decode c_De_round 51 = .ok (.iload_n 1, 1) := by decide +kernel
theorem d_De_round_52 : decode c_De_round 52 = .ok (.iconst 1, 1) := by decide +kernel
theorem d_De_round_53 : decode c_De_round 53 = .ok (.isub, 1) := by decide +kernel
theorem d_De_round_54 : decode c_De_round 54 = .ok (.invokevirtual 54, 3) := by decide +kernel
theorem d_De_round_57 : decode c_De_round 57 = .ok (.iconst 2, 1) := by decide +kernel
theorem d_De_round_58 : decode c_De_round 58 = .ok (.irem, 1) := by decide +kernel
theorem d_De_round_59 : decode c_De_round 59 = .ok (.iconst 1, 1) := by decide +kernel
theorem d_De_round_60 : decode c_De_round 60 = .ok (.if_icmp .ne 7, 3) := by decide +kernel
theorem d_De_round_63 : decode c_De_round 63 = .ok (.iconst 1, 1) := by decide +kernel
theorem d_De_round_64 : decode c_De_round 64 = .ok (.goto 17, 3) := by decide +kernel
theorem d_De_round_67 : decode c_De_round 67 = .ok (.iconst 0, 1) := by decide +kernel
theorem d_De_round_68 : decode c_De_round 68 = .ok (.goto 13, 3) := by decide +kernel
theorem d_De_round_71 : decode c_De_round 71 = .ok (.iload_n 2, 1) := by decide +kernel
theorem d_De_round_72 : decode c_De_round 72 = .ok (.iconst 5, 1) := by decide +kernel
theorem d_De_round_73 : decode c_De_round 73 = .ok (.if_icmp .lt 7, 3) := by decide +kernel
theorem d_De_round_76 : decode c_De_round 76 = .ok (.iconst 1, 1) := by decide +kernel
theorem d_De_round_77 : decode c_De_round 77 = .ok (.goto 4, 3) := by decide +kernel
theorem d_De_round_80 : decode c_De_round 80 = .ok (.iconst 0, 1) := by decide +kernel
theorem d_De_round_81 : decode c_De_round 81 = .ok (.istore 4, 2) := by decide +kernel
theorem d_De_round_83 : decode c_De_round 83 = .ok (.aload_n 0, 1) := by decide +kernel
theorem d_De_round_84 : decode c_De_round 84 = .ok (.iload_n 1, 1) := by decide +kernel
theorem d_De_round_85 : decode c_De_round 85 = .ok (.putfield 21, 3) := by decide +kernel
theorem d_De_round_88 : decode c_De_round 88 = .ok (.iload 4, 2) := by decide +kernel
theorem d_De_round_90 : decode c_De_round 90 = .ok (.ifCond .eq 10, 3) := by decide +kernel
theorem d_De_round_93 : decode c_De_round 93 = .ok (.aload_n 0, 1) := by decide +kernel
theorem d_De_round_94 : decode c_De_round 94 = .ok (.invokevirtual 57, 3) := by decide +kernel
theorem d_De_round_97 : decode c_De_round 97 = .ok (.goto 11, 3) := by decide +kernel
theorem d_De_round_100 : decode c_De_round 100 = .ok (.iload_n 1, 1) := by decide +kernel
theorem d_De_round_101 : decode c_De_round 101 = .ok (.ifCond .ne 7, 3) := by decide +kernel
theorem d_De_round_104 : decode c_De_round 104 = .ok (.aload_n 0, 1) := by decide +kernel
theorem d_De_round_105 : decode c_De_round 105 = .ok (.invokevirtual 27, 3) := by decide +kernel
theorem d_De_round_108 : decode c_De_round 108 = .ok (.return_, 1) := by decide +kernel
theorem d_De_addOneAtTheEnd_0 : decode c_De_addOneAtTheEnd 0 = .ok (.aload_n 0, 1) := by decide +kernel
theorem d_De_addOneAtTheEnd_1 : decode c_De_addOneAtTheEnd 1 = .ok (.getfield 21, 3) := by decide +kernel
theorem d_De_addOneAtTheEnd_4 : decode c_De_addOneAtTheEnd 4 = .ok (.iconst 1, 1) := by decide +kernel
theorem d_De_addOneAtTheEnd_5 : decode c_De_addOneAtTheEnd 5 = .ok (.isub, 1) := by decide +kernel
theorem d_De_addOneAtTheEnd_6 : decode c_De_addOneAtTheEnd 6 = .ok (.istore_n 1, 1) := by decide +kernel
theorem d_De_addOneAtTheEnd_7 : decode c_De_addOneAtTheEnd 7 = .ok (.iload_n 1, 1) := by decide +kernel
theorem d_De_addOneAtTheEnd_8 : decode c_De_addOneAtTheEnd 8 = .ok (.ifCond .lt 39, 3) := by decide +kernel
theorem d_De_addOneAtTheEnd_11 : decode c_De_addOneAtTheEnd 11 = .ok (.aload_n 0, 1) := by decide +kernel
theorem d_De_addOneAtTheEnd_12 : decode c_De_addOneAtTheEnd 12 = .ok (.getfield 17, 3) := by decide +kernel
theorem d_De_addOneAtTheEnd_15 : decode c_De_addOneAtTheEnd 15 = .ok (.iload_n 1, 1) := by decide +kernel
theorem d_De_addOneAtTheEnd_16 : decode c_De_addOneAtTheEnd 16 = .ok (.baload, 1) := by decide +kernel
theorem d_De_addOneAtTheEnd_17 : decode c_De_addOneAtTheEnd 17 = .ok (.bipush 9, 2) := by decide +kernel
theorem d_De_addOneAtTheEnd_19 : decode c_De_addOneAtTheEnd 19 = .ok (.if_icmp .ge 22, 3) := by decide +kernel
theorem d_De_addOneAtTheEnd_22 : decode c_De_addOneAtTheEnd 22 = .ok (.aload_n 0, 1) := by decide +kernel
theorem d_De_addOneAtTheEnd_23 : decode c_De_addOneAtTheEnd 23 = .ok (.getfield 17, 3) := by decide +kernel
theorem d_De_addOneAtTheEnd_26 : decode c_De_addOneAtTheEnd 26 = .ok (.iload_n 1, 1) := by decide +kernel
theorem d_De_addOneAtTheEnd_27 : decode c_De_addOneAtTheEnd 27 = .ok (.dup2, 1) := by decide +kernel
theorem d_De_addOneAtTheEnd_28 : decode c_De_addOneAtTheEnd 28 = .ok (.baload, 1) := by decide +kernel
theorem d_De_addOneAtTheEnd_29 : decode c_De_addOneAtTheEnd 29 = .ok (.iconst 1, 1) := by decide +kernel
theorem d_De_addOneAtTheEnd_30 : decode c_De_addOneAtTheEnd 30 = .ok (.iadd, 1) := by decide +kernel
theorem d_De_addOneAtTheEnd_31 : decode c_De_addOneAtTheEnd 31 = .ok (.i2b, 1) := by decide +kernel
theorem d_De_addOneAtTheEnd_32 : decode c_De_addOneAtTheEnd 32 = .ok (.bastore, 1) := by decide +kernel
theorem d_De_addOneAtTheEnd_33 : decode c_De_addOneAtTheEnd 33 = .ok (.aload_n 0, 1) := by decide +kernel
theorem d_De_addOneAtTheEnd_34 : decode c_De_addOneAtTheEnd 34 = .ok (.iload_n 1, 1) := by decide +kernel
theorem d_De_addOneAtTheEnd_35 : decode c_De_addOneAtTheEnd 35 = .ok (.iconst 1, 1) := by decide +kernel
theorem d_De_addOneAtTheEnd_36 : decode c_De_addOneAtTheEnd 36 = .ok (.iadd, 1) := by decide +kernel
theorem d_De_addOneAtTheEnd_37 : decode c_De_addOneAtTheEnd 37 = .ok (.putfield 21, 3) := by decide +kernel
theorem d_De_addOneAtTheEnd_40 : decode c_De_addOneAtTheEnd 40 = .ok (.return_, 1) := by decide +kernel
theorem d_De_addOneAtTheEnd_41 : decode c_De_addOneAtTheEnd 41 = .ok (.iinc 1 (-1), 3) := by decide +kernel
theorem d_De_addOneAtTheEnd_44 : decode c_De_addOneAtTheEnd 44 = .ok (.goto (-37), 3) := by decide +kernel
theorem d_De_addOneAtTheEnd_47 : decode c_De_addOneAtTheEnd 47 = .ok (.aload_n 0, 1) := by decide +kernel
theorem d_De_addOneAtTheEnd_48 : decode c_De_addOneAtTheEnd 48 = .ok (.getfield 17, 3) := by decide +kernel
theorem d_De_addOneAtTheEnd_51 : decode c_De_addOneAtTheEnd 51 = .ok (.iconst 0, 1) := by decide +kernel
theorem d_De_addOneAtTheEnd_52 : decode c_De_addOneAtTheEnd 52 = .ok (.iconst 1, 1) := by decide +kernel
theorem d_De_addOneAtTheEnd_53 : decode c_De_addOneAtTheEnd 53 = .ok (.bastore, 1) := by decide +kernel
theorem d_De_addOneAtTheEnd_54 : decode c_De_addOneAtTheEnd 54 = .ok (.aload_n 0, 1) := by decide +kernel
theorem d_De_addOneAtTheEnd_55 : decode c_De_addOneAtTheEnd 55 = .ok (.iconst 1, 1) := by decide +kernel
theorem d_De_addOneAtTheEnd_56 : decode c_De_addOneAtTheEnd 56 = .ok (.putfield 21, 3) := by decide +kernel
theorem d_De_addOneAtTheEnd_59 : decode c_De_addOneAtTheEnd 59 = .ok (.aload_n 0, 1) := by decide +kernel
theorem d_De_addOneAtTheEnd_60 : decode c_De_addOneAtTheEnd 60 = .ok (.dup, 1) := by decide +kernel
theorem d_De_addOneAtTheEnd_61 : decode c_De_addOneAtTheEnd 61 = .ok (.getfield 24, 3) := by decide +kernel
theorem d_De_addOneAtTheEnd_64 : decode c_De_addOneAtTheEnd 64 = .ok (.iconst 1, 1) := by decide +kernel
theorem d_De_addOneAtTheEnd_65 : decode c_De_addOneAtTheEnd 65 = .ok (.iadd, 1) := by decide +kernel
theorem d_De_addOneAtTheEnd_66 : decode c_De_addOneAtTheEnd 66 = .ok (.putfield 24, 3) := by decide +kernel
theorem d_De_addOneAtTheEnd_69 : decode c_De_addOneAtTheEnd 69 = .ok (.return_, 1) := by decide +kernel
end
section
/-! decode rows: Fo -/
theorem d_Fo_init_0 : decode c_Fo_init 0 = .ok (.aload_n 0, 1) := by decide +kernel
theorem d_Fo_init_1 : decode c_Fo_init 1 = .ok (.invokespecial 3, 3) := by decide +kernel
theorem d_Fo_init_4 : decode c_Fo_init 4 = .ok (.aload_n 0, 1) := by decide +kernel
theorem d_Fo_init_5 : decode c_Fo_init 5 = .ok (.sipush 400, 3) := by decide +kernel
theorem d_Fo_init_8 : decode c_Fo_init 8 = .ok (.newarray .byte, 2) := by decide +kernel
theorem d_Fo_init_10 : decode c_Fo_init 10 = .ok (.putfield 9, 3) := by decide +kernel
theorem d_Fo_init_13 : decode c_Fo_init 13 = .ok (.aload_n 0, 1) := by decide +kernel
theorem d_Fo_init_14 : decode c_Fo_init 14 = .ok (.iconst 0, 1) := by decide +kernel
theorem d_Fo_init_15 : decode c_Fo_init 15 = .ok (.putfield 15, 3) := by decide +kernel
theorem d_Fo_init_18 : decode c_Fo_init 18 = .ok (.return_, 1) := by decide +kernel
theorem d_Fo_octetsBeforeZero_0 : decode c_Fo_octetsBeforeZero 0 = .ok (.iconst 0, 1) := by decide +kernel
theorem d_Fo_octetsBeforeZero_1 : decode c_Fo_octetsBeforeZero 1 = .ok (.istore_n 2, 1) := by decide +kernel
theorem d_Fo_octetsBeforeZero_2 : decode c_Fo_octetsBeforeZero 2 = .ok (.iload_n 2, 1) := by decide +kernel
theorem d_Fo_octetsBeforeZero_3 : decode c_Fo_octetsBeforeZero 3 = .ok (.bipush 8, 2) := by decide +kernel
theorem d_Fo_octetsBeforeZero_5 : decode c_Fo_octetsBeforeZero 5 = .ok (.if_icmp .ge 19, 3) := by decide +kernel
theorem d_Fo_octetsBeforeZero_8 : decode c_Fo_octetsBeforeZero 8 = .ok (.lload_n 0, 1) := by decide +kernel
theorem d_Fo_octetsBeforeZero_9 : decode c_Fo_octetsBeforeZero 9 = .ok (.iload_n 2, 1) := by decide +kernel
theorem d_Fo_octetsBeforeZero_10 : decode c_Fo_octetsBeforeZero 10 = .ok (.invokestatic 19, 3) := by decide +kernel
theorem d_Fo_octetsBeforeZero_13 : decode c_Fo_octetsBeforeZero 13 = .ok (.ifCond .ne 5, 3) := by decide +kernel
theorem d_Fo_octetsBeforeZero_16 : decode c_Fo_octetsBeforeZero 16 = .ok (.iload_n 2, 1) := by decide +kernel
theorem d_Fo_octetsBeforeZero_17 : decode c_Fo_octetsBeforeZero 17 = .ok (.ireturn, 1) := by decide +kernel
theorem d_Fo_octetsBeforeZero_18 : decode c_Fo_octetsBeforeZero 18 = .ok (.iinc 2 1, 3) := by decide +kernel
theorem d_Fo_octetsBeforeZero_21 : decode c_Fo_octetsBeforeZero 21 = .ok (.goto (-19), 3) := by decide +kernel
theorem d_Fo_octetsBeforeZero_24 : decode c_Fo_octetsBeforeZero 24 = .ok (.bipush 8, 2) := by decide +kernel
theorem d_Fo_octetsBeforeZero_26 : decode c_Fo_octetsBeforeZero 26 = .ok (.ireturn, 1) := by decide +kernel
theorem d_Fo_octet_0 : decode c_Fo_octet 0 = .ok (.lload_n 0, 1) := by decide +kernel
theorem d_Fo_octet_1 : decode c_Fo_octet 1 = .ok (.bipush 56, 2) := by decide +kernel
theorem d_Fo_octet_3 : decode c_Fo_octet 3 = .ok (.bipush 8, 2) := by decide +kernel
theorem d_Fo_octet_5 : decode c_Fo_octet 5 = .ok (.iload_n 2, 1) := by decide +kernel
theorem d_Fo_octet_6 : decode c_Fo_octet 6 = .ok (.imul, 1) := by decide +kernel
theorem d_Fo_octet_7 : decode c_Fo_octet 7 = .ok (.isub, 1) := by decide +kernel
theorem d_Fo_octet_8 : decode c_Fo_octet 8 = .ok (.lushr, 1) := by decide +kernel
theorem d_Fo_octet_9 : decode c_Fo_octet 9 = .ok (.l2i, 1) := by decide +kernel
theorem d_Fo_octet_10 : decode c_Fo_octet 10 = .ok (.sipush 255, 3) := by decide +kernel
theorem d_Fo_octet_13 : decode c_Fo_octet 13 = .ok (.iand, 1) := by decide +kernel
theorem d_Fo_octet_14 : decode c_Fo_octet 14 = .ok (.ireturn, 1) := by decide +kernel
theorem d_Fo_isForeign_0 : decode c_Fo_isForeign 0 = .ok (.iload_n 0, 1) := by decide +kernel
theorem d_Fo_isForeign_1 : decode c_Fo_isForeign 1 = .ok (.bipush 32, 2) := by decide +kernel
theorem d_Fo_isForeign_3 : decode c_Fo_isForeign 3 = .ok (.if_icmp .lt 9, 3) := by decide +kernel
theorem d_Fo_isForeign_6 : decode c_Fo_isForeign 6 = .ok (.iload_n 0, 1) := by decide +kernel
theorem d_Fo_isForeign_7 : decode c_Fo_isForeign 7 = .ok (.bipush 126, 2) := by decide +kernel
theorem d_Fo_isForeign_9 : decode c_Fo_isForeign 9 = .ok (.if_icmp .le 7, 3) := by decide +kernel
theorem d_Fo_isForeign_12 : decode c_Fo_isForeign 12 = .ok (.iconst 1, 1) := by decide +kernel
theorem d_Fo_isForeign_13 : decode c_Fo_isForeign 13 = .ok (.goto 4, 3) := by decide +kernel
theorem d_Fo_isForeign_16 : decode c_Fo_isForeign 16 = .ok (.iconst 0, 1) := by decide +kernel
theorem d_Fo_isForeign_17 : decode c_Fo_isForeign 17 = .ok (.ireturn, 1) := by decide +kernel
theorem d_Fo_add_0 : decode c_Fo_add 0 = .ok (.iconst 0, 1) := by decide +kernel
theorem d_Fo_add_1 : decode c_Fo_add 1 = .ok (.istore 4, 2) := by decide +kernel
theorem d_Fo_add_3 : decode c_Fo_add 3 = .ok (.iload 4, 2) := by decide +kernel
theorem d_Fo_add_5 : decode c_Fo_add 5 = .ok (.iload_n 3, 1) := by decide +kernel
theorem d_Fo_add_6 : decode c_Fo_add 6 = .ok (.if_icmp .ge 47, 3) := by decide +kernel
theorem d_Fo_add_9 : decode c_Fo_add 9 = .ok (.aload_n 0, 1) := by decide +kernel
theorem d_Fo_add_10 : decode c_Fo_add 10 = .ok (.getfield 15, 3) := by decide +kernel
theorem d_Fo_add_13 : decode c_Fo_add 13 = .ok (.aload_n 0, 1) := by decide +kernel
theorem d_Fo_add_14 : decode c_Fo_add 14 = .ok (.getfield 9, 3) := by decide +kernel
theorem d_Fo_add_17 : decode c_Fo_add 17 = .ok (.arraylength, 1) := by decide +kernel
theorem d_Fo_add_18 : decode c_Fo_add 18 = .ok (.if_icmp .ge 35, 3) := by decide +kernel
theorem d_Fo_add_21 : decode c_Fo_add 21 = .ok (.aload_n 0, 1) := by decide +kernel
theorem d_Fo_add_22 : decode c_Fo_add 22 = .ok (.getfield 9, 3) := by decide +kernel
theorem d_Fo_add_25 : decode c_Fo_add 25 = .ok (.aload_n 0, 1) := by decide +kernel
theorem d_Fo_add_26 : decode c_Fo_add 26 = .ok (.getfield 15, 3) := by decide +kernel
theorem d_Fo_add_29 : decode c_Fo_add 29 = .ok (.lload_n 1, 1) := by decide +kernel
theorem d_Fo_add_30 : decode c_Fo_add 30 = .ok (.iload 4, 2) := by decide +kernel
theorem d_Fo_add_32 : decode c_Fo_add 32 = .ok (.invokestatic 19, 3) := by decide +kernel
theorem d_Fo_add_35 : decode c_Fo_add 35 = .ok (.i2b, 1) := by decide +kernel
theorem d_Fo_add_36 : decode c_Fo_add 36 = .ok (.bastore, 1) := by decide +kernel
theorem d_Fo_add_37 : decode c_Fo_add 37 = .ok (.aload_n 0, 1) := by decide +kernel
theorem d_Fo_add_38 : decode c_Fo_add 38 = .ok (.dup, 1) := by decide +kernel
theorem d_Fo_add_39 : decode c_Fo_add 39 = .ok (.getfield 15, 3) := by decide +kernel
theorem d_Fo_add_42 : decode c_Fo_add 42 = .ok (.iconst 1, 1) := by decide +kernel
theorem d_Fo_add_43 : decode c_Fo_add 43 = .ok (.iadd, 1) := by decide +kernel
theorem d_Fo_add_44 : decode c_Fo_add 44 = .ok (.putfield 15, 3) := by decide +kernel
theorem d_Fo_add_47 : decode c_Fo_add 47 = .ok (.iinc 4 1, 3) := by decide +kernel
theorem d_Fo_add_50 : decode c_Fo_add 50 = .ok (.goto (-47), 3) := by decide +kernel
theorem d_Fo_add_53 : decode c_Fo_add 53 = .ok (.return_, 1) := by decide +kernel
theorem d_Fo_letterAt_0 : decode c_Fo_letterAt 0 = .ok (.iload_n 1, 1) := by decide +kernel
theorem d_Fo_letterAt_1 : decode c_Fo_letterAt 1 = .ok (.ifCond .lt 24, 3) := by decide +kernel
theorem d_Fo_letterAt_4 : decode c_Fo_letterAt 4 = .ok (.iload_n 1, 1) := by decide +kernel
theorem d_Fo_letterAt_5 : decode c_Fo_letterAt 5 = .ok (.aload_n 0, 1) := by decide +kernel
theorem d_Fo_letterAt_6 : decode c_Fo_letterAt 6 = .ok (.getfield 15, 3) := by decide +kernel
theorem d_Fo_letterAt_9 : decode c_Fo_letterAt 9 = .ok (.if_icmp .ge 16, 3) := by decide +kernel
theorem d_Fo_letterAt_12 : decode c_Fo_letterAt 12 = .ok (.aload_n 0, 1) := by decide +kernel
theorem d_Fo_letterAt_13 : decode c_Fo_letterAt 13 = .ok (.getfield 9, 3) := by decide +kernel
theorem d_Fo_letterAt_16 : decode c_Fo_letterAt 16 = .ok (.iload_n 1, 1) := by decide +kernel
theorem d_Fo_letterAt_17 : decode c_Fo_letterAt 17 = .ok (.baload, 1) := by decide +kernel
theorem d_Fo_letterAt_18 : decode c_Fo_letterAt 18 = .ok (.sipush 255, 3) := by decide +kernel
theorem d_Fo_letterAt_21 : decode c_Fo_letterAt 21 = .ok (.iand, 1) := by decide +kernel
theorem d_Fo_letterAt_22 : decode c_Fo_letterAt 22 = .ok (.goto 4, 3) := by decide +kernel
theorem d_Fo_letterAt_25 : decode c_Fo_letterAt 25 = .ok (.iconst 0, 1) := by decide +kernel
theorem d_Fo_letterAt_26 : decode c_Fo_letterAt 26 = .ok (.ireturn, 1) := by decide +kernel
theorem d_Fo_placeOfForeignLetter_0 : decode c_Fo_placeOfForeignLetter 0 = .ok (.iconst 0, 1) := by decide +kernel
theorem d_Fo_placeOfForeignLetter_1 : decode c_Fo_placeOfForeignLetter 1 = .ok (.istore_n 1, 1) := by decide +kernel
theorem d_Fo_placeOfForeignLetter_2 : decode c_Fo_placeOfForeignLetter 2 = .ok (.iload_n 1, 1) := by decide +kernel
theorem d_Fo_placeOfForeignLetter_3 : decode c_Fo_placeOfForeignLetter 3 = .ok (.aload_n 0, 1) := by decide +kernel
theorem d_Fo_placeOfForeignLetter_4 : decode c_Fo_placeOfForeignLetter 4 = .ok (.getfield 15, 3) := by decide +kernel
theorem d_Fo_placeOfForeignLetter_7 : decode c_Fo_placeOfForeignLetter 7 = .ok (.if_icmp .ge 22, 3) := by decide +kernel
theorem d_Fo_placeOfForeignLetter_10 : decode c_Fo_placeOfForeignLetter 10 = .ok (.aload_n 0, 1) := by decide +kernel
theorem d_Fo_placeOfForeignLetter_11 : decode c_Fo_placeOfForeignLetter 11 = .ok (.iload_n 1, 1) := by decide +kernel
theorem d_Fo_placeOfForeignLetter_12 : decode c_Fo_placeOfForeignLetter 12 = .ok (.invokevirtual 23, 3) := by decide +kernel
theorem d_Fo_placeOfForeignLetter_15 : decode c_Fo_placeOfForeignLetter 15 = .ok (.invokestatic 27, 3) := by decide +kernel
theorem d_Fo_placeOfForeignLetter_18 : decode c_Fo_placeOfForeignLetter 18 = .ok (.ifCond .eq 5, 3) := by decide +kernel
theorem d_Fo_placeOfForeignLetter_21 : decode c_Fo_placeOfForeignLetter 21 = .ok (.iload_n 1, 1) := by decide +kernel
theorem d_Fo_placeOfForeignLetter_22 : decode c_Fo_placeOfForeignLetter 22 = .ok (.ireturn, 1) := by decide +kernel
theorem d_Fo_placeOfForeignLetter_23 : decode c_Fo_placeOfForeignLetter 23 = .ok (.iinc 1 1, 3) := by decide +kernel
theorem d_Fo_placeOfForeignLetter_26 : decode c_Fo_placeOfForeignLetter 26 = .ok (.goto (-24), 3) := by decide +kernel
theorem d_Fo_placeOfForeignLetter_29 : decode c_Fo_placeOfForeignLetter 29 = .ok (.iconst (-1), 1) := by decide +kernel
theorem d_Fo_placeOfForeignLetter_30 : decode c_Fo_placeOfForeignLetter 30 = .ok (.ireturn, 1) := by decide +kernel
end
section
/-! decode rows: Pi -/
theorem d_Pi_init_0 : decode c_Pi_init 0 = .ok (.aload_n 0, 1) := by decide +kernel
theorem d_Pi_init_1 : decode c_Pi_init 1 = .ok (.invokespecial 3, 3) := by decide +kernel
theorem d_Pi_init_4 : decode c_Pi_init 4 = .ok (.aload_n 0, 1) := by decide +kernel
theorem d_Pi_init_5 : decode c_Pi_init 5 = .ok (.sipush 520, 3) := by decide +kernel
theorem d_Pi_init_8 : decode c_Pi_init 8 = .ok (.newarray .byte, 2) := by decide +kernel
theorem d_Pi_init_10 : decode c_Pi_init 10 = .ok (.putfield 11, 3) := by decide +kernel
theorem d_Pi_init_13 : decode c_Pi_init 13 = .ok (.aload_n 0, 1) := by decide +kernel
theorem d_Pi_init_14 : decode c_Pi_init 14 = .ok (.iconst 0, 1) := by decide +kernel
theorem d_Pi_init_15 : decode c_Pi_init 15 = .ok (.putfield 15, 3) := by decide +kernel
theorem d_Pi_init_18 : decode c_Pi_init 18 = .ok (.aload_n 0, 1) := by decide +kernel
theorem d_Pi_init_19 : decode c_Pi_init 19 = .ok (.iconst (-1), 1) := by decide +kernel
theorem d_Pi_init_20 : decode c_Pi_init 20 = .ok (.putfield 19, 3) := by decide +kernel
theorem d_Pi_init_23 : decode c_Pi_init 23 = .ok (.return_, 1) := by decide +kernel
theorem d_Pi_becomeEmpty_0 : decode c_Pi_becomeEmpty 0 = .ok (.aload_n 0, 1) := by decide +kernel
theorem d_Pi_becomeEmpty_1 : decode c_Pi_becomeEmpty 1 = .ok (.iconst 0, 1) := by decide +kernel
theorem d_Pi_becomeEmpty_2 : decode c_Pi_becomeEmpty 2 = .ok (.putfield 15, 3) := by decide +kernel
theorem d_Pi_becomeEmpty_5 : decode c_Pi_becomeEmpty 5 = .ok (.aload_n 0, 1) := by decide +kernel
theorem d_Pi_becomeEmpty_6 : decode c_Pi_becomeEmpty 6 = .ok (.iconst (-1), 1) := by decide +kernel
theorem d_Pi_becomeEmpty_7 : decode c_Pi_becomeEmpty 7 = .ok (.putfield 19, 3) := by decide +kernel
theorem d_Pi_becomeEmpty_10 : decode c_Pi_becomeEmpty 10 = .ok (.return_, 1) := by decide +kernel
theorem d_Pi_letZerosComeHere_0 : decode c_Pi_letZerosComeHere 0 = .ok (.aload_n 0, 1) := by decide +kernel
theorem d_Pi_letZerosComeHere_1 : decode c_Pi_letZerosComeHere 1 = .ok (.aload_n 0, 1) := by decide +kernel
theorem d_Pi_letZerosComeHere_2 : decode c_Pi_letZerosComeHere 2 = .ok (.getfield 15, 3) := by decide +kernel
theorem d_Pi_letZerosComeHere_5 : decode c_Pi_letZerosComeHere 5 = .ok (.putfield 19, 3) := by decide +kernel
theorem d_Pi_letZerosComeHere_8 : decode c_Pi_letZerosComeHere 8 = .ok (.return_, 1) := by decide +kernel
theorem d_Pi_letterAt_0 : decode c_Pi_letterAt 0 = .ok (.iload_n 1, 1) := by decide +kernel
theorem d_Pi_letterAt_1 : decode c_Pi_letterAt 1 = .ok (.ifCond .lt 20, 3) := by decide +kernel
theorem d_Pi_letterAt_4 : decode c_Pi_letterAt 4 = .ok (.iload_n 1, 1) := by decide +kernel
theorem d_Pi_letterAt_5 : decode c_Pi_letterAt 5 = .ok (.aload_n 0, 1) := by decide +kernel
theorem d_Pi_letterAt_6 : decode c_Pi_letterAt 6 = .ok (.getfield 15, 3) := by decide +kernel
theorem d_Pi_letterAt_9 : decode c_Pi_letterAt 9 = .ok (.if_icmp .ge 12, 3) := by decide +kernel
theorem d_Pi_letterAt_12 : decode c_Pi_letterAt 12 = .ok (.aload_n 0, 1) := by decide +kernel
theorem d_Pi_letterAt_13 : decode c_Pi_letterAt 13 = .ok (.getfield 11, 3) := by decide +kernel
theorem d_Pi_letterAt_16 : decode c_Pi_letterAt 16 = .ok (.iload_n 1, 1) := by decide +kernel
theorem d_Pi_letterAt_17 : decode c_Pi_letterAt 17 = .ok (.baload, 1) := by decide +kernel
theorem d_Pi_letterAt_18 : decode c_Pi_letterAt 18 = .ok (.goto 5, 3) := by decide +kernel
theorem d_Pi_letterAt_21 : decode c_Pi_letterAt 21 = .ok (.bipush 32, 2) := by decide +kernel
theorem d_Pi_letterAt_23 : decode c_Pi_letterAt 23 = .ok (.ireturn, 1) := by decide +kernel
theorem d_Pi_put_0 : decode c_Pi_put 0 = .ok (.aload_n 0, 1) := by decide +kernel
theorem d_Pi_put_1 : decode c_Pi_put 1 = .ok (.getfield 15, 3) := by decide +kernel
theorem d_Pi_put_4 : decode c_Pi_put 4 = .ok (.aload_n 0, 1) := by decide +kernel
theorem d_Pi_put_5 : decode c_Pi_put 5 = .ok (.getfield 11, 3) := by decide +kernel
theorem d_Pi_put_8 : decode c_Pi_put 8 = .ok (.arraylength, 1) := by decide +kernel
theorem d_Pi_put_9 : decode c_Pi_put 9 = .ok (.if_icmp .ge 24, 3) := by decide +kernel
theorem d_Pi_put_12 : decode c_Pi_put 12 = .ok (.aload_n 0, 1) := by decide +kernel
theorem d_Pi_put_13 : decode c_Pi_put 13 = .ok (.getfield 11, 3) := by decide +kernel
theorem d_Pi_put_16 : decode c_Pi_put 16 = .ok (.aload_n 0, 1) := by decide +kernel
theorem d_Pi_put_17 : decode c_Pi_put 17 = .ok (.getfield 15, 3) := by decide +kernel
theorem d_Pi_put_20 : decode c_Pi_put 20 = .ok (.iload_n 1, 1) := by decide +kernel
theorem d_Pi_put_21 : decode c_Pi_put 21 = .ok (.i2b, 1) := by decide +kernel
theorem d_Pi_put_22 : decode c_Pi_put 22 = .ok (.bastore, 1) := by decide +kernel
theorem d_Pi_put_23 : decode c_Pi_put 23 = .ok (.aload_n 0, 1) := by decide +kernel
theorem d_Pi_put_24 : decode c_Pi_put 24 = .ok (.dup, 1) := by decide +kernel
theorem d_Pi_put_25 : decode c_Pi_put 25 = .ok (.getfield 15, 3) := by decide +kernel
theorem d_Pi_put_28 : decode c_Pi_put 28 = .ok (.iconst 1, 1) := by decide +kernel
theorem d_Pi_put_29 : decode c_Pi_put 29 = .ok (.iadd, 1) := by decide +kernel
theorem d_Pi_put_30 : decode c_Pi_put 30 = .ok (.putfield 15, 3) := by decide +kernel
theorem d_Pi_put_33 : decode c_Pi_put 33 = .ok (.return_, 1) := by decide +kernel
theorem d_Pi_putWord_0 : decode c_Pi_putWord 0 = .ok (.iconst 0, 1) := by decide +kernel
theorem d_Pi_putWord_1 : decode c_Pi_putWord 1 = .ok (.istore_n 2, 1) := by decide +kernel
theorem d_Pi_putWord_2 : decode c_Pi_putWord 2 = .ok (.iload_n 2, 1) := by decide +kernel
theorem d_Pi_putWord_3 : decode c_Pi_putWord 3 = .ok (.aload_n 1, 1) := by decide +kernel
theorem d_Pi_putWord_4 : decode c_Pi_putWord 4 = .ok (.invokevirtual 22, 3) := by decide +kernel
theorem d_Pi_putWord_7 : decode c_Pi_putWord 7 = .ok (.if_icmp .ge 18, 3) := by decide +kernel
theorem d_Pi_putWord_10 : decode c_Pi_putWord 10 = .ok (.aload_n 0, 1) := by decide +kernel
theorem d_Pi_putWord_11 : decode c_Pi_putWord 11 = .ok (.aload_n 1, 1) := by decide +kernel
theorem d_Pi_putWord_12 : decode c_Pi_putWord 12 = .ok (.iload_n 2, 1) := by decide +kernel
theorem d_Pi_putWord_13 : decode c_Pi_putWord 13 = .ok (.invokevirtual 28, 3) := by decide +kernel
theorem d_Pi_putWord_16 : decode c_Pi_putWord 16 = .ok (.invokevirtual 32, 3) := by decide +kernel
theorem d_Pi_putWord_19 : decode c_Pi_putWord 19 = .ok (.iinc 2 1, 3) := by decide +kernel
theorem d_Pi_putWord_22 : decode c_Pi_putWord 22 = .ok (.goto (-20), 3) := by decide +kernel
theorem d_Pi_putWord_25 : decode c_Pi_putWord 25 = .ok (.return_, 1) := by decide +kernel
theorem d_Pi_putSign_0 : decode c_Pi_putSign 0 = .ok (.iload_n 1, 1) := by decide +kernel
theorem d_Pi_putSign_1 : decode c_Pi_putSign 1 = .ok (.ifCond .eq 12, 3) := by decide +kernel
theorem d_Pi_putSign_4 : decode c_Pi_putSign 4 = .ok (.aload_n 0, 1) := by decide +kernel
theorem d_Pi_putSign_5 : decode c_Pi_putSign 5 = .ok (.bipush 45, 2) := by decide +kernel
theorem d_Pi_putSign_7 : decode c_Pi_putSign 7 = .ok (.invokevirtual 32, 3) := by decide +kernel
theorem d_Pi_putSign_10 : decode c_Pi_putSign 10 = .ok (.goto 32, 3) := by decide +kernel
theorem d_Pi_putSign_13 : decode c_Pi_putSign 13 = .ok (.aload_n 2, 1) := by decide +kernel
theorem d_Pi_putSign_14 : decode c_Pi_putSign 14 = .ok (.getfield 36, 3) := by decide +kernel
theorem d_Pi_putSign_17 : decode c_Pi_putSign 17 = .ok (.ifCond .eq 12, 3) := by decide +kernel
theorem d_Pi_putSign_20 : decode c_Pi_putSign 20 = .ok (.aload_n 0, 1) := by decide +kernel
theorem d_Pi_putSign_21 : decode c_Pi_putSign 21 = .ok (.bipush 43, 2) := by decide +kernel
theorem d_Pi_putSign_23 : decode c_Pi_putSign 23 = .ok (.invokevirtual 32, 3) := by decide +kernel
theorem d_Pi_putSign_26 : decode c_Pi_putSign 26 = .ok (.goto 16, 3) := by decide +kernel
theorem d_Pi_putSign_29 : decode c_Pi_putSign 29 = .ok (.aload_n 2, 1) := by decide +kernel
theorem d_Pi_putSign_30 : decode c_Pi_putSign 30 = .ok (.getfield 42, 3) := by decide +kernel
theorem d_Pi_putSign_33 : decode c_Pi_putSign 33 = .ok (.ifCond .eq 9, 3) := by decide +kernel
theorem d_Pi_putSign_36 : decode c_Pi_putSign 36 = .ok (.aload_n 0, 1) := by decide +kernel
theorem d_Pi_putSign_37 : decode c_Pi_putSign 37 = .ok (.bipush 32, 2) := by decide +kernel
theorem d_Pi_putSign_39 : decode c_Pi_putSign 39 = .ok (.invokevirtual 32, 3) := by decide +kernel
theorem d_Pi_putSign_42 : decode c_Pi_putSign 42 = .ok (.return_, 1) := by decide +kernel
theorem d_Pi_putDigit_0 : decode c_Pi_putDigit 0 = .ok (.aload_n 0, 1) := by decide +kernel
theorem d_Pi_putDigit_1 : decode c_Pi_putDigit 1 = .ok (.ldc 45, 2) := by decide +kernel
theorem d_Pi_putDigit_3 : decode c_Pi_putDigit 3 = .ok (.iload_n 1, 1) := by decide +kernel
theorem d_Pi_putDigit_4 : decode c_Pi_putDigit 4 = .ok (.bipush 15, 2) := by decide +kernel
theorem d_Pi_putDigit_6 : decode c_Pi_putDigit 6 = .ok (.iand, 1) := by decide +kernel
theorem d_Pi_putDigit_7 : decode c_Pi_putDigit 7 = .ok (.invokevirtual 28, 3) := by decide +kernel
theorem d_Pi_putDigit_10 : decode c_Pi_putDigit 10 = .ok (.invokevirtual 32, 3) := by decide +kernel
theorem d_Pi_putDigit_13 : decode c_Pi_putDigit 13 = .ok (.return_, 1) := by decide +kernel
theorem d_Pi_putWhole_0 : decode c_Pi_putWhole 0 = .ok (.aload_n 0, 1) := by decide +kernel
theorem d_Pi_putWhole_1 : decode c_Pi_putWhole 1 = .ok (.getfield 15, 3) := by decide +kernel
theorem d_Pi_putWhole_4 : decode c_Pi_putWhole 4 = .ok (.istore 5, 2) := by decide +kernel
theorem d_Pi_putWhole_6 : decode c_Pi_putWhole 6 = .ok (.iconst 0, 1) := by decide +kernel
theorem d_Pi_putWhole_7 : decode c_Pi_putWhole 7 = .ok (.istore 6, 2) := by decide +kernel
theorem d_Pi_putWhole_9 : decode c_Pi_putWhole 9 = .ok (.iload 6, 2) := by decide +kernel
theorem d_Pi_putWhole_11 : decode c_Pi_putWhole 11 = .ok (.iload 4, 2) := by decide +kernel
theorem d_Pi_putWhole_13 : decode c_Pi_putWhole 13 = .ok (.if_icmp .ge 15, 3) := by decide +kernel
theorem d_Pi_putWhole_16 : decode c_Pi_putWhole 16 = .ok (.aload_n 0, 1) := by decide +kernel
theorem d_Pi_putWhole_17 : decode c_Pi_putWhole 17 = .ok (.bipush 48, 2) := by decide +kernel
theorem d_Pi_putWhole_19 : decode c_Pi_putWhole 19 = .ok (.invokevirtual 32, 3) := by decide +kernel
theorem d_Pi_putWhole_22 : decode c_Pi_putWhole 22 = .ok (.iinc 6 1, 3) := by decide +kernel
theorem d_Pi_putWhole_25 : decode c_Pi_putWhole 25 = .ok (.goto (-16), 3) := by decide +kernel
theorem d_Pi_putWhole_28 : decode c_Pi_putWhole 28 = .ok (.lload_n 1, 1) := by decide +kernel
theorem d_Pi_putWhole_29 : decode c_Pi_putWhole 29 = .ok (.lstore 6, 2) := by decide +kernel
theorem d_Pi_putWhole_31 : decode c_Pi_putWhole 31 = .ok (.aload_n 0, 1) := by decide +kernel
theorem d_Pi_putWhole_32 : decode c_Pi_putWhole 32 = .ok (.getfield 15, 3) := by decide +kernel
theorem d_Pi_putWhole_35 : decode c_Pi_putWhole 35 = .ok (.iconst 1, 1) := by decide +kernel
theorem d_Pi_putWhole_36 : decode c_Pi_putWhole 36 = .ok (.isub, 1) := by decide +kernel
theorem d_Pi_putWhole_37 : decode c_Pi_putWhole 37 = .ok (.istore 8, 2) := by decide +kernel
theorem d_Pi_putWhole_39 : decode c_Pi_putWhole 39 = .ok (.iload 8, 2) := by decide +kernel
theorem d_Pi_putWhole_41 : decode c_Pi_putWhole 41 = .ok (.iload 5, 2) := by decide +kernel
theorem d_Pi_putWhole_43 : decode c_Pi_putWhole 43 = .ok (.if_icmp .lt 46, 3) := by decide +kernel
theorem d_Pi_putWhole_46 : decode c_Pi_putWhole 46 = .ok (.lload 6, 2) := by decide +kernel
theorem d_Pi_putWhole_48 : decode c_Pi_putWhole 48 = .ok (.iload_n 3, 1) := by decide +kernel
theorem d_Pi_putWhole_49 : decode c_Pi_putWhole 49 = .ok (.invokestatic 47, 3) := by decide +kernel
theorem d_Pi_putWhole_52 : decode c_Pi_putWhole 52 = .ok (.lstore 9, 2) := by decide +kernel
theorem d_Pi_putWhole_54 : decode c_Pi_putWhole 54 = .ok (.aload_n 0, 1) := by decide +kernel
theorem d_Pi_putWhole_55 : decode c_Pi_putWhole 55 = .ok (.getfield 11, 3) := by decide +kernel
theorem d_Pi_putWhole_58 : decode c_Pi_putWhole 58 = .ok (.iload 8, 2) := by decide +kernel
theorem d_Pi_putWhole_60 : decode c_Pi_putWhole 60 = .ok (.ldc 45, 2) := by decide +kernel
theorem d_Pi_putWhole_62 : decode c_Pi_putWhole 62 = .ok (.lload 6, 2) := by decide +kernel
theorem d_Pi_putWhole_64 : decode c_Pi_putWhole 64 = .ok (.iload_n 3, 1) := by decide +kernel
theorem d_Pi_putWhole_65 : decode c_Pi_putWhole 65 = .ok (.i2l, 1) := by decide +kernel
theorem d_Pi_putWhole_66 : decode c_Pi_putWhole 66 = .ok (.lload 9, 2) := by decide +kernel
theorem d_Pi_putWhole_68 : decode c_Pi_putWhole 68 = .ok (.lmul, 1) := by decide +kernel
theorem d_Pi_putWhole_69 : decode c_Pi_putWhole 69 = .ok (.lsub, 1) := by decide +kernel
theorem d_Pi_putWhole_70 : decode c_Pi_putWhole 70 = .ok (.l2i, 1) := by decide +kernel
theorem d_Pi_putWhole_71 : decode c_Pi_putWhole 71 = .ok (.bipush 15, 2) := by decide +kernel
theorem d_Pi_putWhole_73 : decode c_Pi_putWhole 73 = .ok (.iand, 1) := by decide +kernel
theorem d_Pi_putWhole_74 : decode c_Pi_putWhole 74 = .ok (.invokevirtual 28, 3) := by decide +kernel
theorem d_Pi_putWhole_77 : decode c_Pi_putWhole 77 = .ok (.i2b, 1) := by decide +kernel
theorem d_Pi_putWhole_78 : decode c_Pi_putWhole 78 = .ok (.bastore, 1) := by decide +kernel
theorem d_Pi_putWhole_79 : decode c_Pi_putWhole 79 = .ok (.lload 9, 2) := by decide +kernel
theorem d_Pi_putWhole_81 : decode c_Pi_putWhole 81 = .ok (.lstore 6, 2) := by decide +kernel
theorem d_Pi_putWhole_83 : decode c_Pi_putWhole 83 = .ok (.iinc 8 (-1), 3) := by decide +kernel
theorem d_Pi_putWhole_86 : decode c_Pi_putWhole 86 = .ok (.goto (-47), 3) := by decide +kernel
theorem d_Pi_putWhole_89 : decode c_Pi_putWhole 89 = .ok (.return_, 1) := by decide +kernel
theorem d_Pi_digitsOf_0 : decode c_Pi_digitsOf 0 = .ok (.lload_n 0, 1) := by decide +kernel
theorem d_Pi_digitsOf_1 : decode c_Pi_digitsOf 1 = .ok (.lstore_n 3, 1) := by decide +kernel
theorem d_Pi_digitsOf_2 : decode c_Pi_digitsOf 2 = .ok (.iconst 0, 1) := by decide +kernel
theorem d_Pi_digitsOf_3 : decode c_Pi_digitsOf 3 = .ok (.istore 5, 2) := by decide +kernel
theorem d_Pi_digitsOf_5 : decode c_Pi_digitsOf 5 = .ok (.iload 5, 2) := by decide +kernel
theorem d_Pi_digitsOf_7 : decode c_Pi_digitsOf 7 = .ok (.bipush 22, 2) := by decide +kernel
theorem d_Pi_digitsOf_9 : decode c_Pi_digitsOf 9 = .ok (.if_icmp .ge 24, 3) := by decide +kernel
theorem d_Pi_digitsOf_12 : decode c_Pi_digitsOf 12 = .ok (.lload_n 3, 1) := by decide +kernel
theorem d_Pi_digitsOf_13 : decode c_Pi_digitsOf 13 = .ok (.lconst 0, 1) := by decide +kernel
theorem d_Pi_digitsOf_14 : decode c_Pi_digitsOf 14 = .ok (.lcmp, 1) := by decide +kernel
theorem d_Pi_digitsOf_15 : decode c_Pi_digitsOf 15 = .ok (.ifCond .ne 6, 3) := by decide +kernel
theorem d_Pi_digitsOf_18 : decode c_Pi_digitsOf 18 = .ok (.iload 5, 2) := by decide +kernel
theorem d_Pi_digitsOf_20 : decode c_Pi_digitsOf 20 = .ok (.ireturn, 1) := by decide +kernel
theorem d_Pi_digitsOf_21 : decode c_Pi_digitsOf 21 = .ok (.lload_n 3, 1) := by decide +kernel
theorem d_Pi_digitsOf_22 : decode c_Pi_digitsOf 22 = .ok (.iload_n 2, 1) := by decide +kernel
theorem d_Pi_digitsOf_23 : decode c_Pi_digitsOf 23 = .ok (.invokestatic 47, 3) := by decide +kernel
theorem d_Pi_digitsOf_26 : decode c_Pi_digitsOf 26 = .ok (.lstore_n 3, 1) := by decide +kernel
theorem d_Pi_digitsOf_27 : decode c_Pi_digitsOf 27 = .ok (.iinc 5 1, 3) := by decide +kernel
theorem d_Pi_digitsOf_30 : decode c_Pi_digitsOf 30 = .ok (.goto (-25), 3) := by decide +kernel
theorem d_Pi_digitsOf_33 : decode c_Pi_digitsOf 33 = .ok (.bipush 22, 2) := by decide +kernel
theorem d_Pi_digitsOf_35 : decode c_Pi_digitsOf 35 = .ok (.ireturn, 1) := by decide +kernel
theorem d_Pi_withoutLastDigit_0 : decode c_Pi_withoutLastDigit 0 = .ok (.iload_n 2, 1) := by decide +kernel
theorem d_Pi_withoutLastDigit_1 : decode c_Pi_withoutLastDigit 1 = .ok (.bipush 8, 2) := by decide +kernel
theorem d_Pi_withoutLastDigit_3 : decode c_Pi_withoutLastDigit 3 = .ok (.if_icmp .ne 7, 3) := by decide +kernel
theorem d_Pi_withoutLastDigit_6 : decode c_Pi_withoutLastDigit 6 = .ok (.lload_n 0, 1) := by decide +kernel
theorem d_Pi_withoutLastDigit_7 : decode c_Pi_withoutLastDigit 7 = .ok (.iconst 3, 1) := by decide +kernel
theorem d_Pi_withoutLastDigit_8 : decode c_Pi_withoutLastDigit 8 = .ok (.lushr, 1) := by decide +kernel
theorem d_Pi_withoutLastDigit_9 : decode c_Pi_withoutLastDigit 9 = .ok (.lreturn, 1) := by decide +kernel
theorem d_Pi_withoutLastDigit_10 : decode c_Pi_withoutLastDigit 10 = .ok (.iload_n 2, 1) := by decide +kernel
theorem d_Pi_withoutLastDigit_11 : decode c_Pi_withoutLastDigit 11 = .ok (.bipush 16, 2) := by decide +kernel
theorem d_Pi_withoutLastDigit_13 : decode c_Pi_withoutLastDigit 13 = .ok (.if_icmp .ne 7, 3) := by decide +kernel
theorem d_Pi_withoutLastDigit_16 : decode c_Pi_withoutLastDigit 16 = .ok (.lload_n 0, 1) := by decide +kernel
theorem d_Pi_withoutLastDigit_17 : decode c_Pi_withoutLastDigit 17 = .ok (.iconst 4, 1) := by decide +kernel
theorem d_Pi_withoutLastDigit_18 : decode c_Pi_withoutLastDigit 18 = .ok (.lushr, 1) := by decide +kernel
theorem d_Pi_withoutLastDigit_19 : decode c_Pi_withoutLastDigit 19 = .ok (.lreturn, 1) := by decide +kernel
theorem d_Pi_withoutLastDigit_20 : decode c_Pi_withoutLastDigit 20 = .ok (.lload_n 0, 1) := by decide +kernel
theorem d_Pi_withoutLastDigit_21 : decode c_Pi_withoutLastDigit 21 = .ok (.iconst 1, 1) := by decide +kernel
theorem d_Pi_withoutLastDigit_22 : decode c_Pi_withoutLastDigit 22 = .ok (.lushr, 1) := by decide +kernel
theorem d_Pi_withoutLastDigit_23 : decode c_Pi_withoutLastDigit 23 = .ok (.ldc2_w 51, 3) := by decide +kernel
theorem d_Pi_withoutLastDigit_26 : decode c_Pi_withoutLastDigit 26 = .ok (.ldiv, 1) := by decide +kernel
theorem d_Pi_withoutLastDigit_27 : decode c_Pi_withoutLastDigit 27 = .ok (.lreturn, 1) := by decide +kernel
theorem d_Pi_becomeGreat_0 : decode c_Pi_becomeGreat 0 = .ok (.iconst 0, 1) := by decide +kernel
theorem d_Pi_becomeGreat_1 : decode c_Pi_becomeGreat 1 = .ok (.istore_n 1, 1) := by decide +kernel
theorem d_Pi_becomeGreat_2 : decode c_Pi_becomeGreat 2 = .ok (.iload_n 1, 1) := by decide +kernel
theorem d_Pi_becomeGreat_3 : decode c_Pi_becomeGreat 3 = .ok (.aload_n 0, 1) := by decide +kernel
theorem d_Pi_becomeGreat_4 : decode c_Pi_becomeGreat 4 = .ok (.getfield 15, 3) := by decide +kernel
theorem d_Pi_becomeGreat_7 : decode c_Pi_becomeGreat 7 = .ok (.if_icmp .ge 50, 3) := by decide +kernel
theorem d_Pi_becomeGreat_10 : decode c_Pi_becomeGreat 10 = .ok (.aload_n 0, 1) := by decide +kernel
theorem d_Pi_becomeGreat_11 : decode c_Pi_becomeGreat 11 = .ok (.getfield 11, 3) := by decide +kernel
theorem d_Pi_becomeGreat_14 : decode c_Pi_becomeGreat 14 = .ok (.iload_n 1, 1) := by decide +kernel
theorem d_Pi_becomeGreat_15 : decode c_Pi_becomeGreat 15 = .ok (.baload, 1) := by decide +kernel
theorem d_Pi_becomeGreat_16 : decode c_Pi_becomeGreat 16 = .ok (.bipush 97, 2) := by decide +kernel
theorem d_Pi_becomeGreat_18 : decode c_Pi_becomeGreat 18 = .ok (.if_icmp .lt 33, 3) := by decide +kernel
theorem d_Pi_becomeGreat_21 : decode c_Pi_becomeGreat 21 = .ok (.aload_n 0, 1) := by decide +kernel
theorem d_Pi_becomeGreat_22 : decode c_Pi_becomeGreat 22 = .ok (.getfield 11, 3) := by decide +kernel
theorem d_Pi_becomeGreat_25 : decode c_Pi_becomeGreat 25 = .ok (.iload_n 1, 1) := by decide +kernel
theorem d_Pi_becomeGreat_26 : decode c_Pi_becomeGreat 26 = .ok (.baload, 1) := by decide +kernel
theorem d_Pi_becomeGreat_27 : decode c_Pi_becomeGreat 27 = .ok (.bipush 122, 2) := by decide +kernel
theorem d_Pi_becomeGreat_29 : decode c_Pi_becomeGreat 29 = .ok (.if_icmp .gt 22, 3) := by decide +kernel
theorem d_Pi_becomeGreat_32 : decode c_Pi_becomeGreat 32 = .ok (.aload_n 0, 1) := by decide +kernel
theorem d_Pi_becomeGreat_33 : decode c_Pi_becomeGreat 33 = .ok (.getfield 11, 3) := by decide +kernel
theorem d_Pi_becomeGreat_36 : decode c_Pi_becomeGreat 36 = .ok (.iload_n 1, 1) := by decide +kernel
theorem d_Pi_becomeGreat_37 : decode c_Pi_becomeGreat 37 = .ok (.aload_n 0, 1) := by decide +kernel
theorem d_Pi_becomeGreat_38 : decode c_Pi_becomeGreat 38 = .ok (.getfield 11, 3) := by decide +kernel
theorem d_Pi_becomeGreat_41 : decode c_Pi_becomeGreat 41 = .ok (.iload_n 1, 1) := by decide +kernel
theorem d_Pi_becomeGreat_42 : decode c_Pi_becomeGreat 42 = .ok (.baload, 1) := by decide +kernel
theorem d_Pi_becomeGreat_43 : decode c_Pi_becomeGreat 43 = .ok (.bipush 97, 2) := by decide +kernel
theorem d_Pi_becomeGreat_45 : decode c_Pi_becomeGreat 45 = .ok (.isub, 1) := by decide +kernel
theorem d_Pi_becomeGreat_46 : decode c_Pi_becomeGreat 46 = .ok (.bipush 65, 2) := by decide +kernel
theorem d_Pi_becomeGreat_48 : decode c_Pi_becomeGreat 48 = .ok (.iadd, 1) := by decide +kernel
theorem d_Pi_becomeGreat_49 : decode c_Pi_becomeGreat 49 = .ok (.i2b, 1) := by decide +kernel
theorem d_Pi_becomeGreat_50 : decode c_Pi_becomeGreat 50 = .ok (.bastore, 1) := by decide +kernel
theorem d_Pi_becomeGreat_51 : decode c_Pi_becomeGreat 51 = .ok (.iinc 1 1, 3) := by decide +kernel
theorem d_Pi_becomeGreat_54 : decode c_Pi_becomeGreat 54 = .ok (.goto (-52), 3) := by decide +kernel
theorem d_Pi_becomeGreat_57 : decode c_Pi_becomeGreat 57 = .ok (.return_, 1) := by decide +kernel
end
section
/-! decode rows: Di -/
theorem d_Di_init_0 : decode c_Di_init 0 = .ok (.aload_n 0, 1) := by decide +kernel
theorem d_Di_init_1 : decode c_Di_init 1 = .ok (.invokespecial 3, 3) := by decide +kernel
theorem d_Di_init_4 : decode c_Di_init 4 = .ok (.return_, 1) := by decide +kernel
theorem d_Di_read_0 : decode c_Di_read 0 = .ok (.aload_n 0, 1) := by decide +kernel
theorem d_Di_read_1 : decode c_Di_read 1 = .ok (.invokevirtual 9, 3) := by decide +kernel
theorem d_Di_read_4 : decode c_Di_read 4 = .ok (.aload_n 0, 1) := by decide +kernel
theorem d_Di_read_5 : decode c_Di_read 5 = .ok (.iload_n 2, 1) := by decide +kernel
theorem d_Di_read_6 : decode c_Di_read 6 = .ok (.iconst 1, 1) := by decide +kernel
theorem d_Di_read_7 : decode c_Di_read 7 = .ok (.iadd, 1) := by decide +kernel
theorem d_Di_read_8 : decode c_Di_read 8 = .ok (.putfield 14, 3) := by decide +kernel
theorem d_Di_read_11 : decode c_Di_read 11 = .ok (.aload_n 0, 1) := by decide +kernel
theorem d_Di_read_12 : decode c_Di_read 12 = .ok (.aload_n 1, 1) := by decide +kernel
theorem d_Di_read_13 : decode c_Di_read 13 = .ok (.invokevirtual 18, 3) := by decide +kernel
theorem d_Di_read_16 : decode c_Di_read 16 = .ok (.aload_n 0, 1) := by decide +kernel
theorem d_Di_read_17 : decode c_Di_read 17 = .ok (.aload_n 1, 1) := by decide +kernel
theorem d_Di_read_18 : decode c_Di_read 18 = .ok (.invokevirtual 22, 3) := by decide +kernel
theorem d_Di_read_21 : decode c_Di_read 21 = .ok (.ifCond .eq 23, 3) := by decide +kernel
theorem d_Di_read_24 : decode c_Di_read 24 = .ok (.aload_n 0, 1) := by decide +kernel
theorem d_Di_read_25 : decode c_Di_read 25 = .ok (.aload_n 1, 1) := by decide +kernel
theorem d_Di_read_26 : decode c_Di_read 26 = .ok (.invokevirtual 26, 3) := by decide +kernel
theorem d_Di_read_29 : decode c_Di_read 29 = .ok (.ifCond .eq 15, 3) := by decide +kernel
theorem d_Di_read_32 : decode c_Di_read 32 = .ok (.aload_n 0, 1) := by decide +kernel
theorem d_Di_read_33 : decode c_Di_read 33 = .ok (.aload_n 1, 1) := by decide +kernel
theorem d_Di_read_34 : decode c_Di_read 34 = .ok (.invokevirtual 29, 3) := by decide +kernel
theorem d_Di_read_37 : decode c_Di_read 37 = .ok (.ifCond .eq 7, 3) := by decide +kernel
theorem d_Di_read_40 : decode c_Di_read 40 = .ok (.iconst 1, 1) := by decide +kernel
theorem d_Di_read_41 : decode c_Di_read 41 = .ok (.goto 4, 3) := by decide +kernel
theorem d_Di_read_44 : decode c_Di_read 44 = .ok (.iconst 0, 1) := by decide +kernel
theorem d_Di_read_45 : decode c_Di_read 45 = .ok (.ireturn, 1) := by decide +kernel
theorem d_Di_forget_0 : decode c_Di_forget 0 = .ok (.aload_n 0, 1) := by decide +kernel
theorem d_Di_forget_1 : decode c_Di_forget 1 = .ok (.iconst 0, 1) := by decide +kernel
theorem d_Di_forget_2 : decode c_Di_forget 2 = .ok (.putfield 32, 3) := by decide +kernel
theorem d_Di_forget_5 : decode c_Di_forget 5 = .ok (.aload_n 0, 1) := by decide +kernel
theorem d_Di_forget_6 : decode c_Di_forget 6 = .ok (.iconst 0, 1) := by decide +kernel
theorem d_Di_forget_7 : decode c_Di_forget 7 = .ok (.putfield 36, 3) := by decide +kernel
theorem d_Di_forget_10 : decode c_Di_forget 10 = .ok (.aload_n 0, 1) := by decide +kernel
theorem d_Di_forget_11 : decode c_Di_forget 11 = .ok (.iconst 0, 1) := by decide +kernel
theorem d_Di_forget_12 : decode c_Di_forget 12 = .ok (.putfield 39, 3) := by decide +kernel
theorem d_Di_forget_15 : decode c_Di_forget 15 = .ok (.aload_n 0, 1) := by decide +kernel
theorem d_Di_forget_16 : decode c_Di_forget 16 = .ok (.iconst 0, 1) := by decide +kernel
theorem d_Di_forget_17 : decode c_Di_forget 17 = .ok (.putfield 42, 3) := by decide +kernel
theorem d_Di_forget_20 : decode c_Di_forget 20 = .ok (.aload_n 0, 1) := by decide +kernel
theorem d_Di_forget_21 : decode c_Di_forget 21 = .ok (.iconst 0, 1) := by decide +kernel
theorem d_Di_forget_22 : decode c_Di_forget 22 = .ok (.putfield 45, 3) := by decide +kernel
theorem d_Di_forget_25 : decode c_Di_forget 25 = .ok (.aload_n 0, 1) := by decide +kernel
theorem d_Di_forget_26 : decode c_Di_forget 26 = .ok (.iconst 0, 1) := by decide +kernel
theorem d_Di_forget_27 : decode c_Di_forget 27 = .ok (.putfield 48, 3) := by decide +kernel
theorem d_Di_forget_30 : decode c_Di_forget 30 = .ok (.aload_n 0, 1) := by decide +kernel
theorem d_Di_forget_31 : decode c_Di_forget 31 = .ok (.iconst 0, 1) := by decide +kernel
theorem d_Di_forget_32 : decode c_Di_forget 32 = .ok (.putfield 51, 3) := by decide +kernel
theorem d_Di_forget_35 : decode c_Di_forget 35 = .ok (.aload_n 0, 1) := by decide +kernel
theorem d_Di_forget_36 : decode c_Di_forget 36 = .ok (.iconst (-1), 1) := by decide +kernel
theorem d_Di_forget_37 : decode c_Di_forget 37 = .ok (.putfield 54, 3) := by decide +kernel
theorem d_Di_forget_40 : decode c_Di_forget 40 = .ok (.aload_n 0, 1) := by decide +kernel
theorem d_Di_forget_41 : decode c_Di_forget 41 = .ok (.iconst 0, 1) := by decide +kernel
theorem d_Di_forget_42 : decode c_Di_forget 42 = .ok (.putfield 57, 3) := by decide +kernel
theorem d_Di_forget_45 : decode c_Di_forget 45 = .ok (.aload_n 0, 1) := by decide +kernel
theorem d_Di_forget_46 : decode c_Di_forget 46 = .ok (.bipush 37, 2) := by decide +kernel
theorem d_Di_forget_48 : decode c_Di_forget 48 = .ok (.putfield 60, 3) := by decide +kernel
theorem d_Di_forget_51 : decode c_Di_forget 51 = .ok (.aload_n 0, 1) := by decide +kernel
theorem d_Di_forget_52 : decode c_Di_forget 52 = .ok (.iconst 0, 1) := by decide +kernel
theorem d_Di_forget_53 : decode c_Di_forget 53 = .ok (.putfield 63, 3) := by decide +kernel
theorem d_Di_forget_56 : decode c_Di_forget 56 = .ok (.return_, 1) := by decide +kernel
theorem d_Di_readFlags_0 : decode c_Di_readFlags 0 = .ok (.aload_n 0, 1) := by decide +kernel
theorem d_Di_readFlags_1 : decode c_Di_readFlags 1 = .ok (.getfield 14, 3) := by decide +kernel
theorem d_Di_readFlags_4 : decode c_Di_readFlags 4 = .ok (.aload_n 1, 1) := by decide +kernel
theorem d_Di_readFlags_5 : decode c_Di_readFlags 5 = .ok (.getfield 66, 3) := by decide +kernel
theorem d_Di_readFlags_8 : decode c_Di_readFlags 8 = .ok (.if_icmp .ge 114, 3) := by decide +kernel
theorem d_Di_readFlags_11 : decode c_Di_readFlags 11 = .ok (.aload_n 1, 1) := by decide +kernel
theorem d_Di_readFlags_12 : decode c_Di_readFlags 12 = .ok (.aload_n 0, 1) := by decide +kernel
theorem d_Di_readFlags_13 : decode c_Di_readFlags 13 = .ok (.getfield 14, 3) := by decide +kernel
theorem d_Di_readFlags_16 : decode c_Di_readFlags 16 = .ok (.invokevirtual 71, 3) := by decide +kernel
theorem d_Di_readFlags_19 : decode c_Di_readFlags 19 = .ok (.lookupswitch 89 #[(32, 65), (35, 73), (43, 57), (45, 49), (48, 81)], 49) := by decide +kernel
theorem d_Di_readFlags_68 : decode c_Di_readFlags 68 = .ok (.aload_n 0, 1) := by decide +kernel
theorem d_Di_readFlags_69 : decode c_Di_readFlags 69 = .ok (.iconst 1, 1) := by decide +kernel
theorem d_Di_readFlags_70 : decode c_Di_readFlags 70 = .ok (.putfield 32, 3) := by decide +kernel
theorem d_Di_readFlags_73 : decode c_Di_readFlags 73 = .ok (.goto 36, 3) := by decide +kernel
theorem d_Di_readFlags_76 : decode c_Di_readFlags 76 = .ok (.aload_n 0, 1) := by decide +kernel
theorem d_Di_readFlags_77 : decode c_Di_readFlags 77 = .ok (.iconst 1, 1) := by decide +kernel
theorem d_Di_readFlags_78 : decode c_Di_readFlags 78 = .ok (.putfield 36, 3) := by decide +kernel
theorem d_Di_readFlags_81 : decode c_Di_readFlags 81 = .ok (.goto 28, 3) := by decide +kernel
theorem d_Di_readFlags_84 : decode c_Di_readFlags 84 = .ok (.aload_n 0, 1) := by decide +kernel
theorem d_Di_readFlags_85 : decode c_Di_readFlags 85 = .ok (.iconst 1, 1) := by decide +kernel
theorem d_Di_readFlags_86 : decode c_Di_readFlags 86 = .ok (.putfield 39, 3) := by decide +kernel
theorem d_Di_readFlags_89 : decode c_Di_readFlags 89 = .ok (.goto 20, 3) := by decide +kernel
theorem d_Di_readFlags_92 : decode c_Di_readFlags 92 = .ok (.aload_n 0, 1) := by decide +kernel
theorem d_Di_readFlags_93 : decode c_Di_readFlags 93 = .ok (.iconst 1, 1) := by decide +kernel
theorem d_Di_readFlags_94 : decode c_Di_readFlags 94 = .ok (.putfield 42, 3) := by decide +kernel
theorem d_Di_readFlags_97 : decode c_Di_readFlags 97 = .ok (.goto 12, 3) := by decide +kernel
theorem d_Di_readFlags_100 : decode c_Di_readFlags 100 = .ok (.aload_n 0, 1) := by decide +kernel
theorem d_Di_readFlags_101 : decode c_Di_readFlags 101 = .ok (.iconst 1, 1) := by decide +kernel
theorem d_Di_readFlags_102 : decode c_Di_readFlags 102 = .ok (.putfield 45, 3) := by decide +kernel
theorem d_Di_readFlags_105 : decode c_Di_readFlags 105 = .ok (.goto 4, 3) := by decide +kernel
theorem d_Di_readFlags_108 : decode c_Di_readFlags 108 = .ok (.return_, 1) := by decide +kernel
theorem d_Di_readFlags_109 : decode c_Di_readFlags 109 = .ok (.aload_n 0, 1) := by decide +kernel
theorem d_Di_readFlags_110 : decode c_Di_readFlags 110 = .ok (.dup, 1) := by decide +kernel
theorem d_Di_readFlags_111 : decode c_Di_readFlags 111 = .ok (.getfield 14, 3) := by decide +kernel
theorem d_Di_readFlags_114 : decode c_Di_readFlags 114 = .ok (.iconst 1, 1) := by decide +kernel
theorem d_Di_readFlags_115 : decode c_Di_readFlags 115 = .ok (.iadd, 1) := by decide +kernel
theorem d_Di_readFlags_116 : decode c_Di_readFlags 116 = .ok (.putfield 14, 3) := by decide +kernel
theorem d_Di_readFlags_119 : decode c_Di_readFlags 119 = .ok (.goto (-119), 3) := by decide +kernel
theorem d_Di_readFlags_122 : decode c_Di_readFlags 122 = .ok (.return_, 1) := by decide +kernel
theorem d_Di_readWidth_0 : decode c_Di_readWidth 0 = .ok (.aload_n 0, 1) := by decide +kernel
theorem d_Di_readWidth_1 : decode c_Di_readWidth 1 = .ok (.aload_n 0, 1) := by decide +kernel
theorem d_Di_readWidth_2 : decode c_Di_readWidth 2 = .ok (.aload_n 1, 1) := by decide +kernel
theorem d_Di_readWidth_3 : decode c_Di_readWidth 3 = .ok (.bipush 42, 2) := by decide +kernel
theorem d_Di_readWidth_5 : decode c_Di_readWidth 5 = .ok (.invokevirtual 75, 3) := by decide +kernel
theorem d_Di_readWidth_8 : decode c_Di_readWidth 8 = .ok (.putfield 51, 3) := by decide +kernel
theorem d_Di_readWidth_11 : decode c_Di_readWidth 11 = .ok (.aload_n 0, 1) := by decide +kernel
theorem d_Di_readWidth_12 : decode c_Di_readWidth 12 = .ok (.getfield 51, 3) := by decide +kernel
theorem d_Di_readWidth_15 : decode c_Di_readWidth 15 = .ok (.ifCond .eq 5, 3) := by decide +kernel
theorem d_Di_readWidth_18 : decode c_Di_readWidth 18 = .ok (.iconst 1, 1) := by decide +kernel
theorem d_Di_readWidth_19 : decode c_Di_readWidth 19 = .ok (.ireturn, 1) := by decide +kernel
theorem d_Di_readWidth_20 : decode c_Di_readWidth 20 = .ok (.aload_n 0, 1) := by decide +kernel
theorem d_Di_readWidth_21 : decode c_Di_readWidth 21 = .ok (.aload_n 0, 1) := by decide +kernel
theorem d_Di_readWidth_22 : decode c_Di_readWidth 22 = .ok (.aload_n 1, 1) := by decide +kernel
theorem d_Di_readWidth_23 : decode c_Di_readWidth 23 = .ok (.invokevirtual 79, 3) := by decide +kernel
theorem d_Di_readWidth_26 : decode c_Di_readWidth 26 = .ok (.putfield 48, 3) := by decide +kernel
theorem d_Di_readWidth_29 : decode c_Di_readWidth 29 = .ok (.aload_n 0, 1) := by decide +kernel
theorem d_Di_readWidth_30 : decode c_Di_readWidth 30 = .ok (.getfield 48, 3) := by decide +kernel
theorem d_Di_readWidth_33 : decode c_Di_readWidth 33 = .ok (.sipush 200, 3) := by decide +kernel
theorem d_Di_readWidth_36 : decode c_Di_readWidth 36 = .ok (.if_icmp .gt 7, 3) := by decide +kernel
theorem d_Di_readWidth_39 : decode c_Di_readWidth 39 = .ok (.iconst 1, 1) := by decide +kernel
theorem d_Di_readWidth_40 : decode c_Di_readWidth 40 = .ok (.goto 4, 3) := by decide +kernel
theorem d_Di_readWidth_43 : decode c_Di_readWidth 43 = .ok (.iconst 0, 1) := by decide +kernel
theorem d_Di_readWidth_44 : decode c_Di_readWidth 44 = .ok (.ireturn, 1) := by decide +kernel
theorem d_Di_readPrecision_0 : decode c_Di_readPrecision 0 = .ok (.aload_n 0, 1) := by decide +kernel
theorem d_Di_readPrecision_1 : decode c_Di_readPrecision 1 = .ok (.aload_n 1, 1) := by decide +kernel
theorem d_Di_readPrecision_2 : decode c_Di_readPrecision 2 = .ok (.bipush 46, 2) := by decide +kernel
theorem d_Di_readPrecision_4 : decode c_Di_readPrecision 4 = .ok (.invokevirtual 75, 3) := by decide +kernel
theorem d_Di_readPrecision_7 : decode c_Di_readPrecision 7 = .ok (.ifCond .ne 5, 3) := by decide +kernel
theorem d_Di_readPrecision_10 : decode c_Di_readPrecision 10 = .ok (.iconst 1, 1) := by decide +kernel
theorem d_Di_readPrecision_11 : decode c_Di_readPrecision 11 = .ok (.ireturn, 1) := by decide +kernel
theorem d_Di_readPrecision_12 : decode c_Di_readPrecision 12 = .ok (.aload_n 0, 1) := by decide +kernel
theorem d_Di_readPrecision_13 : decode c_Di_readPrecision 13 = .ok (.aload_n 0, 1) := by decide +kernel
theorem d_Di_readPrecision_14 : decode c_Di_readPrecision 14 = .ok (.aload_n 1, 1) := by decide +kernel
theorem d_Di_readPrecision_15 : decode c_Di_readPrecision 15 = .ok (.bipush 42, 2) := by decide +kernel
theorem d_Di_readPrecision_17 : decode c_Di_readPrecision 17 = .ok (.invokevirtual 75, 3) := by decide +kernel
theorem d_Di_readPrecision_20 : decode c_Di_readPrecision 20 = .ok (.putfield 57, 3) := by decide +kernel
theorem d_Di_readPrecision_23 : decode c_Di_readPrecision 23 = .ok (.aload_n 0, 1) := by decide +kernel
theorem d_Di_readPrecision_24 : decode c_Di_readPrecision 24 = .ok (.getfield 57, 3) := by decide +kernel
theorem d_Di_readPrecision_27 : decode c_Di_readPrecision 27 = .ok (.ifCond .eq 5, 3) := by decide +kernel
theorem d_Di_readPrecision_30 : decode c_Di_readPrecision 30 = .ok (.iconst 1, 1) := by decide +kernel
theorem d_Di_readPrecision_31 : decode c_Di_readPrecision 31 = .ok (.ireturn, 1) := by decide +kernel
theorem d_Di_readPrecision_32 : decode c_Di_readPrecision 32 = .ok (.aload_n 0, 1) := by decide +kernel
theorem d_Di_readPrecision_33 : decode c_Di_readPrecision 33 = .ok (.aload_n 0, 1) := by decide +kernel
theorem d_Di_readPrecision_34 : decode c_Di_readPrecision 34 = .ok (.aload_n 1, 1) := by decide +kernel
theorem d_Di_readPrecision_35 : decode c_Di_readPrecision 35 = .ok (.invokevirtual 79, 3) := by decide +kernel
theorem d_Di_readPrecision_38 : decode c_Di_readPrecision 38 = .ok (.putfield 54, 3) := by decide +kernel
theorem d_Di_readPrecision_41 : decode c_Di_readPrecision 41 = .ok (.aload_n 0, 1) := by decide +kernel
theorem d_Di_readPrecision_42 : decode c_Di_readPrecision 42 = .ok (.getfield 54, 3) := by decide +kernel
theorem d_Di_readPrecision_45 : decode c_Di_readPrecision 45 = .ok (.sipush 200, 3) := by decide +kernel
theorem d_Di_readPrecision_48 : decode c_Di_readPrecision 48 = .ok (.if_icmp .gt 7, 3) := by decide +kernel
theorem d_Di_readPrecision_51 : decode c_Di_readPrecision 51 = .ok (.iconst 1, 1) := by decide +kernel
theorem d_Di_readPrecision_52 : decode c_Di_readPrecision 52 = .ok (.goto 4, 3) := by decide +kernel
theorem d_Di_readPrecision_55 : decode c_Di_readPrecision 55 = .ok (.iconst 0, 1) := by decide +kernel
theorem d_Di_readPrecision_56 : decode c_Di_readPrecision 56 = .ok (.ireturn, 1) := by decide +kernel
theorem d_Di_readIf_0 : decode c_Di_readIf 0 = .ok (.aload_n 1, 1) := by decide +kernel
theorem d_Di_readIf_1 : decode c_Di_readIf 1 = .ok (.aload_n 0, 1) := by decide +kernel
theorem d_Di_readIf_2 : decode c_Di_readIf 2 = .ok (.getfield 14, 3) := by decide +kernel
theorem d_Di_readIf_5 : decode c_Di_readIf 5 = .ok (.invokevirtual 71, 3) := by decide +kernel
theorem d_Di_readIf_8 : decode c_Di_readIf 8 = .ok (.iload_n 2, 1) := by decide +kernel
theorem d_Di_readIf_9 : decode c_Di_readIf 9 = .ok (.if_icmp .eq 5, 3) := by decide +kernel
theorem d_Di_readIf_12 : decode c_Di_readIf 12 = .ok (.iconst 0, 1) := by decide +kernel
theorem d_Di_readIf_13 : decode c_Di_readIf 13 = .ok (.ireturn, 1) := by decide +kernel
theorem d_Di_readIf_14 : decode c_Di_readIf 14 = .ok (.aload_n 0, 1) := by decide +kernel
theorem d_Di_readIf_15 : decode c_Di_readIf 15 = .ok (.dup, 1) := by decide +kernel
theorem d_Di_readIf_16 : decode c_Di_readIf 16 = .ok (.getfield 14, 3) := by decide +kernel
theorem d_Di_readIf_19 : decode c_Di_readIf 19 = .ok (.iconst 1, 1) := by decide +kernel
theorem d_Di_readIf_20 : decode c_Di_readIf 20 = .ok (.iadd, 1) := by decide +kernel
theorem d_Di_readIf_21 : decode c_Di_readIf 21 = .ok (.putfield 14, 3) := by decide +kernel
theorem d_Di_readIf_24 : decode c_Di_readIf 24 = .ok (.iconst 1, 1) := by decide +kernel
theorem d_Di_readIf_25 : decode c_Di_readIf 25 = .ok (.ireturn, 1) := by decide +kernel
theorem d_Di_readDigits_0 : decode c_Di_readDigits 0 = .ok (.aload_n 0, 1) := by decide +kernel
theorem d_Di_readDigits_1 : decode c_Di_readDigits 1 = .ok (.getfield 14, 3) := by decide +kernel
theorem d_Di_readDigits_4 : decode c_Di_readDigits 4 = .ok (.istore_n 2, 1) := by decide +kernel
theorem d_Di_readDigits_5 : decode c_Di_readDigits 5 = .ok (.iconst 0, 1) := by decide +kernel
theorem d_Di_readDigits_6 : decode c_Di_readDigits 6 = .ok (.istore_n 3, 1) := by decide +kernel
theorem d_Di_readDigits_7 : decode c_Di_readDigits 7 = .ok (.iconst 0, 1) := by decide +kernel
theorem d_Di_readDigits_8 : decode c_Di_readDigits 8 = .ok (.istore 4, 2) := by decide +kernel
theorem d_Di_readDigits_10 : decode c_Di_readDigits 10 = .ok (.iload 4, 2) := by decide +kernel
theorem d_Di_readDigits_12 : decode c_Di_readDigits 12 = .ok (.iconst 3, 1) := by decide +kernel
theorem d_Di_readDigits_13 : decode c_Di_readDigits 13 = .ok (.if_icmp .ge 50, 3) := by decide +kernel
theorem d_Di_readDigits_16 : decode c_Di_readDigits 16 = .ok (.aload_n 1, 1) := by decide +kernel
theorem d_Di_readDigits_17 : decode c_Di_readDigits 17 = .ok (.aload_n 0, 1) := by decide +kernel
theorem d_Di_readDigits_18 : decode c_Di_readDigits 18 = .ok (.getfield 14, 3) := by decide +kernel
theorem d_Di_readDigits_21 : decode c_Di_readDigits 21 = .ok (.invokevirtual 71, 3) := by decide +kernel
theorem d_Di_readDigits_24 : decode c_Di_readDigits 24 = .ok (.invokestatic 83, 3) := by decide +kernel
theorem d_Di_readDigits_27 : decode c_Di_readDigits 27 = .ok (.ifCond .eq 36, 3) := by decide +kernel
theorem d_Di_readDigits_30 : decode c_Di_readDigits 30 = .ok (.bipush 10, 2) := by decide +kernel
theorem d_Di_readDigits_32 : decode c_Di_readDigits 32 = .ok (.iload_n 3, 1) := by decide +kernel
theorem d_Di_readDigits_33 : decode c_Di_readDigits 33 = .ok (.imul, 1) := by decide +kernel
theorem d_Di_readDigits_34 : decode c_Di_readDigits 34 = .ok (.aload_n 1, 1) := by decide +kernel
theorem d_Di_readDigits_35 : decode c_Di_readDigits 35 = .ok (.aload_n 0, 1) := by decide +kernel
theorem d_Di_readDigits_36 : decode c_Di_readDigits 36 = .ok (.getfield 14, 3) := by decide +kernel
theorem d_Di_readDigits_39 : decode c_Di_readDigits 39 = .ok (.invokevirtual 71, 3) := by decide +kernel
theorem d_Di_readDigits_42 : decode c_Di_readDigits 42 = .ok (.iadd, 1) := by decide +kernel
theorem d_Di_readDigits_43 : decode c_Di_readDigits 43 = .ok (.bipush 48, 2) := by decide +kernel
theorem d_Di_readDigits_45 : decode c_Di_readDigits 45 = .ok (.isub, 1) := by decide +kernel
theorem d_Di_readDigits_46 : decode c_Di_readDigits 46 = .ok (.istore_n 3, 1) := by decide +kernel
theorem d_Di_readDigits_47 : decode c_Di_readDigits 47 = .ok (.aload_n 0, 1) := by decide +kernel
theorem d_Di_readDigits_48 : decode c_Di_readDigits 48 = .ok (.dup, 1) := by decide +kernel
theorem d_Di_readDigits_49 : decode c_Di_readDigits 49 = .ok (.getfield 14, 3) := by decide +kernel
theorem d_Di_readDigits_52 : decode c_Di_readDigits 52 = .ok (.iconst 1, 1) := by decide +kernel
theorem d_Di_readDigits_53 : decode c_Di_readDigits 53 = .ok (.iadd, 1) := by decide +kernel
theorem d_Di_readDigits_54 : decode c_Di_readDigits 54 = .ok (.putfield 14, 3) := by decide +kernel
theorem d_Di_readDigits_57 : decode c_Di_readDigits 57 = .ok (.iinc 4 1, 3) := by decide +kernel
theorem d_Di_readDigits_60 : decode c_Di_readDigits 60 = .ok (.goto (-50), 3) := by decide +kernel
theorem d_Di_readDigits_63 : decode c_Di_readDigits 63 = .ok (.iload_n 3, 1) := by decide +kernel
theorem d_Di_readDigits_64 : decode c_Di_readDigits 64 = .ok (.sipush 200, 3) := by decide +kernel
theorem d_Di_readDigits_67 : decode c_Di_readDigits 67 = .ok (.if_icmp .le 8, 3) := by decide +kernel
theorem d_Di_readDigits_70 : decode c_Di_readDigits 70 = .ok (.aload_n 0, 1) := by decide +kernel
theorem d_Di_readDigits_71 : decode c_Di_readDigits 71 = .ok (.iload_n 2, 1) := by decide +kernel
theorem d_Di_readDigits_72 : decode c_Di_readDigits 72 = .ok (.putfield 14, 3) := by decide +kernel
theorem d_Di_readDigits_75 : decode c_Di_readDigits 75 = .ok (.iload_n 3, 1) := by decide +kernel
theorem d_Di_readDigits_76 : decode c_Di_readDigits 76 = .ok (.ireturn, 1) := by decide +kernel
theorem d_Di_isDigit_0 : decode c_Di_isDigit 0 = .ok (.iload_n 0, 1) := by decide +kernel
theorem d_Di_isDigit_1 : decode c_Di_isDigit 1 = .ok (.bipush 48, 2) := by decide +kernel
theorem d_Di_isDigit_3 : decode c_Di_isDigit 3 = .ok (.if_icmp .lt 13, 3) := by decide +kernel
theorem d_Di_isDigit_6 : decode c_Di_isDigit 6 = .ok (.iload_n 0, 1) := by decide +kernel
theorem d_Di_isDigit_7 : decode c_Di_isDigit 7 = .ok (.bipush 57, 2) := by decide +kernel
theorem d_Di_isDigit_9 : decode c_Di_isDigit 9 = .ok (.if_icmp .gt 7, 3) := by decide +kernel
theorem d_Di_isDigit_12 : decode c_Di_isDigit 12 = .ok (.iconst 1, 1) := by decide +kernel
theorem d_Di_isDigit_13 : decode c_Di_isDigit 13 = .ok (.goto 4, 3) := by decide +kernel
theorem d_Di_isDigit_16 : decode c_Di_isDigit 16 = .ok (.iconst 0, 1) := by decide +kernel
theorem d_Di_isDigit_17 : decode c_Di_isDigit 17 = .ok (.ireturn, 1) := by decide +kernel
theorem d_Di_readKind_0 : decode c_Di_readKind 0 = .ok (.aload_n 1, 1) := by decide +kernel
theorem d_Di_readKind_1 : decode c_Di_readKind 1 = .ok (.aload_n 0, 1) := by decide +kernel
theorem d_Di_readKind_2 : decode c_Di_readKind 2 = .ok (.getfield 14, 3) := by decide +kernel
theorem d_Di_readKind_5 : decode c_Di_readKind 5 = .ok (.invokevirtual 71, 3) := by decide +kernel
theorem d_Di_readKind_8 : decode c_Di_readKind 8 = .ok (.i2c, 1) := by decide +kernel
theorem d_Di_readKind_9 : decode c_Di_readKind 9 = .ok (.istore_n 2, 1) := by decide +kernel
theorem d_Di_readKind_10 : decode c_Di_readKind 10 = .ok (.ldc 87, 2) := by decide +kernel
theorem d_Di_readKind_12 : decode c_Di_readKind 12 = .ok (.iload_n 2, 1) := by decide +kernel
theorem d_Di_readKind_13 : decode c_Di_readKind 13 = .ok (.invokevirtual 89, 3) := by decide +kernel
theorem d_Di_readKind_16 : decode c_Di_readKind 16 = .ok (.ifCond .ge 5, 3) := by decide +kernel
theorem d_Di_readKind_19 : decode c_Di_readKind 19 = .ok (.iconst 0, 1) := by decide +kernel
theorem d_Di_readKind_20 : decode c_Di_readKind 20 = .ok (.ireturn, 1) := by decide +kernel
theorem d_Di_readKind_21 : decode c_Di_readKind 21 = .ok (.aload_n 0, 1) := by decide +kernel
theorem d_Di_readKind_22 : decode c_Di_readKind 22 = .ok (.iload_n 2, 1) := by decide +kernel
theorem d_Di_readKind_23 : decode c_Di_readKind 23 = .ok (.bipush 65, 2) := by decide +kernel
theorem d_Di_readKind_25 : decode c_Di_readKind 25 = .ok (.if_icmp .lt 13, 3) := by decide +kernel
theorem d_Di_readKind_28 : decode c_Di_readKind 28 = .ok (.iload_n 2, 1) := by decide +kernel
theorem d_Di_readKind_29 : decode c_Di_readKind 29 = .ok (.bipush 90, 2) := by decide +kernel
theorem d_Di_readKind_31 : decode c_Di_readKind 31 = .ok (.if_icmp .gt 7, 3) := by decide +kernel
theorem d_Di_readKind_34 : decode c_Di_readKind 34 = .ok (.iconst 1, 1) := by decide +kernel
theorem d_Di_readKind_35 : decode c_Di_readKind 35 = .ok (.goto 4, 3) := by decide +kernel
theorem d_Di_readKind_38 : decode c_Di_readKind 38 = .ok (.iconst 0, 1) := by decide +kernel
theorem d_Di_readKind_39 : decode c_Di_readKind 39 = .ok (.putfield 63, 3) := by decide +kernel
theorem d_Di_readKind_42 : decode c_Di_readKind 42 = .ok (.aload_n 0, 1) := by decide +kernel
theorem d_Di_readKind_43 : decode c_Di_readKind 43 = .ok (.aload_n 0, 1) := by decide +kernel
theorem d_Di_readKind_44 : decode c_Di_readKind 44 = .ok (.getfield 63, 3) := by decide +kernel
theorem d_Di_readKind_47 : decode c_Di_readKind 47 = .ok (.ifCond .eq 13, 3) := by decide +kernel
theorem d_Di_readKind_50 : decode c_Di_readKind 50 = .ok (.iload_n 2, 1) := by decide +kernel
theorem d_Di_readKind_51 : decode c_Di_readKind 51 = .ok (.bipush 65, 2) := by decide +kernel
theorem d_Di_readKind_53 : decode c_Di_readKind 53 = .ok (.isub, 1) := by decide +kernel
theorem d_Di_readKind_54 : decode c_Di_readKind 54 = .ok (.bipush 97, 2) := by decide +kernel
theorem d_Di_readKind_56 : decode c_Di_readKind 56 = .ok (.iadd, 1) := by decide +kernel
theorem d_Di_readKind_57 : decode c_Di_readKind 57 = .ok (.goto 4, 3) := by decide +kernel
theorem d_Di_readKind_60 : decode c_Di_readKind 60 = .ok (.iload_n 2, 1) := by decide +kernel
theorem d_Di_readKind_61 : decode c_Di_readKind 61 = .ok (.putfield 60, 3) := by decide +kernel
theorem d_Di_readKind_64 : decode c_Di_readKind 64 = .ok (.iconst 1, 1) := by decide +kernel
theorem d_Di_readKind_65 : decode c_Di_readKind 65 = .ok (.ireturn, 1) := by decide +kernel
theorem d_Di_useTakenWidth_0 : decode c_Di_useTakenWidth 0 = .ok (.iload_n 1, 1) := by decide +kernel
theorem d_Di_useTakenWidth_1 : decode c_Di_useTakenWidth 1 = .ok (.ifCond .ge 8, 3) := by decide +kernel
theorem d_Di_useTakenWidth_4 : decode c_Di_useTakenWidth 4 = .ok (.aload_n 0, 1) := by decide +kernel
theorem d_Di_useTakenWidth_5 : decode c_Di_useTakenWidth 5 = .ok (.iconst 1, 1) := by decide +kernel
theorem d_Di_useTakenWidth_6 : decode c_Di_useTakenWidth 6 = .ok (.putfield 32, 3) := by decide +kernel
theorem d_Di_useTakenWidth_9 : decode c_Di_useTakenWidth 9 = .ok (.aload_n 0, 1) := by decide +kernel
theorem d_Di_useTakenWidth_10 : decode c_Di_useTakenWidth 10 = .ok (.iload_n 1, 1) := by decide +kernel
theorem d_Di_useTakenWidth_11 : decode c_Di_useTakenWidth 11 = .ok (.ifCond .ge 8, 3) := by decide +kernel
theorem d_Di_useTakenWidth_14 : decode c_Di_useTakenWidth 14 = .ok (.iload_n 1, 1) := by decide +kernel
theorem d_Di_useTakenWidth_15 : decode c_Di_useTakenWidth 15 = .ok (.ineg, 1) := by decide +kernel
theorem d_Di_useTakenWidth_16 : decode c_Di_useTakenWidth 16 = .ok (.goto 4, 3) := by decide +kernel
theorem d_Di_useTakenWidth_19 : decode c_Di_useTakenWidth 19 = .ok (.iload_n 1, 1) := by decide +kernel
theorem d_Di_useTakenWidth_20 : decode c_Di_useTakenWidth 20 = .ok (.putfield 48, 3) := by decide +kernel
theorem d_Di_useTakenWidth_23 : decode c_Di_useTakenWidth 23 = .ok (.return_, 1) := by decide +kernel
theorem d_Di_useTakenPrecision_0 : decode c_Di_useTakenPrecision 0 = .ok (.aload_n 0, 1) := by decide +kernel
theorem d_Di_useTakenPrecision_1 : decode c_Di_useTakenPrecision 1 = .ok (.iload_n 1, 1) := by decide +kernel
theorem d_Di_useTakenPrecision_2 : decode c_Di_useTakenPrecision 2 = .ok (.ifCond .ge 7, 3) := by decide +kernel
theorem d_Di_useTakenPrecision_5 : decode c_Di_useTakenPrecision 5 = .ok (.iconst (-1), 1) := by decide +kernel
theorem d_Di_useTakenPrecision_6 : decode c_Di_useTakenPrecision 6 = .ok (.goto 4, 3) := by decide +kernel
theorem d_Di_useTakenPrecision_9 : decode c_Di_useTakenPrecision 9 = .ok (.iload_n 1, 1) := by decide +kernel
theorem d_Di_useTakenPrecision_10 : decode c_Di_useTakenPrecision 10 = .ok (.putfield 54, 3) := by decide +kernel
theorem d_Di_useTakenPrecision_13 : decode c_Di_useTakenPrecision 13 = .ok (.return_, 1) := by decide +kernel
end
section
/-! decode rows: Wr -/
theorem d_Wr_init_0 : decode c_Wr_init 0 = .ok (.aload_n 0, 1) := by decide +kernel
theorem d_Wr_init_1 : decode c_Wr_init 1 = .ok (.invokespecial 5, 3) := by decide +kernel
theorem d_Wr_init_4 : decode c_Wr_init 4 = .ok (.aload_n 0, 1) := by decide +kernel
theorem d_Wr_init_5 : decode c_Wr_init 5 = .ok (.new 11, 3) := by decide +kernel
theorem d_Wr_init_8 : decode c_Wr_init 8 = .ok (.dup, 1) := by decide +kernel
theorem d_Wr_init_9 : decode c_Wr_init 9 = .ok (.invokespecial 13, 3) := by decide +kernel
theorem d_Wr_init_12 : decode c_Wr_init 12 = .ok (.putfield 14, 3) := by decide +kernel
theorem d_Wr_init_15 : decode c_Wr_init 15 = .ok (.aload_n 0, 1) := by decide +kernel
theorem d_Wr_init_16 : decode c_Wr_init 16 = .ok (.new 18, 3) := by decide +kernel
theorem d_Wr_init_19 : decode c_Wr_init 19 = .ok (.dup, 1) := by decide +kernel
theorem d_Wr_init_20 : decode c_Wr_init 20 = .ok (.invokespecial 20, 3) := by decide +kernel
theorem d_Wr_init_23 : decode c_Wr_init 23 = .ok (.putfield 21, 3) := by decide +kernel
theorem d_Wr_init_26 : decode c_Wr_init 26 = .ok (.return_, 1) := by decide +kernel
theorem d_Wr_write_0 : decode c_Wr_write 0 = .ok (.aload_n 0, 1) := by decide +kernel
theorem d_Wr_write_1 : decode c_Wr_write 1 = .ok (.getfield 14, 3) := by decide +kernel
theorem d_Wr_write_4 : decode c_Wr_write 4 = .ok (.invokevirtual 25, 3) := by decide +kernel
theorem d_Wr_write_7 : decode c_Wr_write 7 = .ok (.aload_n 3, 1) := by decide +kernel
theorem d_Wr_write_8 : decode c_Wr_write 8 = .ok (.getfield 28, 3) := by decide +kernel
theorem d_Wr_write_11 : decode c_Wr_write 11 = .ok (.lookupswitch 127 #[(37, 65), (99, 77), (100, 85), (105, 85), (111, 105), (117, 94), (120, 116)], 65) := by decide +kernel
theorem d_Wr_write_76 : decode c_Wr_write 76 = .ok (.aload_n 0, 1) := by decide +kernel
theorem d_Wr_write_77 : decode c_Wr_write 77 = .ok (.getfield 14, 3) := by decide +kernel
theorem d_Wr_write_80 : decode c_Wr_write 80 = .ok (.bipush 37, 2) := by decide +kernel
theorem d_Wr_write_82 : decode c_Wr_write 82 = .ok (.invokevirtual 34, 3) := by decide +kernel
theorem d_Wr_write_85 : decode c_Wr_write 85 = .ok (.goto 59, 3) := by decide +kernel
theorem d_Wr_write_88 : decode c_Wr_write 88 = .ok (.aload_n 0, 1) := by decide +kernel
theorem d_Wr_write_89 : decode c_Wr_write 89 = .ok (.lload_n 1, 1) := by decide +kernel
theorem d_Wr_write_90 : decode c_Wr_write 90 = .ok (.invokevirtual 38, 3) := by decide +kernel
theorem d_Wr_write_93 : decode c_Wr_write 93 = .ok (.goto 51, 3) := by decide +kernel
theorem d_Wr_write_96 : decode c_Wr_write 96 = .ok (.aload_n 0, 1) := by decide +kernel
theorem d_Wr_write_97 : decode c_Wr_write 97 = .ok (.lload_n 1, 1) := by decide +kernel
theorem d_Wr_write_98 : decode c_Wr_write 98 = .ok (.aload_n 3, 1) := by decide +kernel
theorem d_Wr_write_99 : decode c_Wr_write 99 = .ok (.invokevirtual 42, 3) := by decide +kernel
theorem d_Wr_write_102 : decode c_Wr_write 102 = .ok (.goto 42, 3) := by decide +kernel
theorem d_Wr_write_105 : decode c_Wr_write 105 = .ok (.aload_n 0, 1) := by decide +kernel
theorem d_Wr_write_106 : decode c_Wr_write 106 = .ok (.lload_n 1, 1) := by decide +kernel
theorem d_Wr_write_107 : decode c_Wr_write 107 = .ok (.bipush 10, 2) := by decide +kernel
theorem d_Wr_write_109 : decode c_Wr_write 109 = .ok (.aload_n 3, 1) := by decide +kernel
theorem d_Wr_write_110 : decode c_Wr_write 110 = .ok (.invokevirtual 46, 3) := by decide +kernel
theorem d_Wr_write_113 : decode c_Wr_write 113 = .ok (.goto 31, 3) := by decide +kernel
theorem d_Wr_write_116 : decode c_Wr_write 116 = .ok (.aload_n 0, 1) := by decide +kernel
theorem d_Wr_write_117 : decode c_Wr_write 117 = .ok (.lload_n 1, 1) := by decide +kernel
theorem d_Wr_write_118 : decode c_Wr_write 118 = .ok (.bipush 8, 2) := by decide +kernel
theorem d_Wr_write_120 : decode c_Wr_write 120 = .ok (.aload_n 3, 1) := by decide +kernel
theorem d_Wr_write_121 : decode c_Wr_write 121 = .ok (.invokevirtual 46, 3) := by decide +kernel
theorem d_Wr_write_124 : decode c_Wr_write 124 = .ok (.goto 20, 3) := by decide +kernel
theorem d_Wr_write_127 : decode c_Wr_write 127 = .ok (.aload_n 0, 1) := by decide +kernel
theorem d_Wr_write_128 : decode c_Wr_write 128 = .ok (.lload_n 1, 1) := by decide +kernel
theorem d_Wr_write_129 : decode c_Wr_write 129 = .ok (.bipush 16, 2) := by decide +kernel
theorem d_Wr_write_131 : decode c_Wr_write 131 = .ok (.aload_n 3, 1) := by decide +kernel
theorem d_Wr_write_132 : decode c_Wr_write 132 = .ok (.invokevirtual 46, 3) := by decide +kernel
theorem d_Wr_write_135 : decode c_Wr_write 135 = .ok (.goto 9, 3) := by decide +kernel
theorem d_Wr_write_138 : decode c_Wr_write 138 = .ok (.aload_n 0, 1) := by decide +kernel
theorem d_Wr_write_139 : decode c_Wr_write 139 = .ok (.lload_n 1, 1) := by decide +kernel
theorem d_Wr_write_140 : decode c_Wr_write 140 = .ok (.aload_n 3, 1) := by decide +kernel
theorem d_Wr_write_141 : decode c_Wr_write 141 = .ok (.invokevirtual 50, 3) := by decide +kernel
theorem d_Wr_write_144 : decode c_Wr_write 144 = .ok (.aload_n 3, 1) := by decide +kernel
theorem d_Wr_write_145 : decode c_Wr_write 145 = .ok (.getfield 53, 3) := by decide +kernel
theorem d_Wr_write_148 : decode c_Wr_write 148 = .ok (.ifCond .eq 10, 3) := by decide +kernel
theorem d_Wr_write_151 : decode c_Wr_write 151 = .ok (.aload_n 0, 1) := by decide +kernel
theorem d_Wr_write_152 : decode c_Wr_write 152 = .ok (.getfield 14, 3) := by decide +kernel
theorem d_Wr_write_155 : decode c_Wr_write 155 = .ok (.invokevirtual 57, 3) := by decide +kernel
theorem d_Wr_write_158 : decode c_Wr_write 158 = .ok (.return_, 1) := by decide +kernel
theorem d_Wr_writeLetter_0 : decode c_Wr_writeLetter 0 = .ok (.lload_n 1, 1) := by decide +kernel
theorem d_Wr_writeLetter_1 : decode c_Wr_writeLetter 1 = .ok (.ldc2_w 60, 3) := by decide +kernel
theorem d_Wr_writeLetter_4 : decode c_Wr_writeLetter 4 = .ok (.land, 1) := by decide +kernel
theorem d_Wr_writeLetter_5 : decode c_Wr_writeLetter 5 = .ok (.l2i, 1) := by decide +kernel
theorem d_Wr_writeLetter_6 : decode c_Wr_writeLetter 6 = .ok (.istore_n 3, 1) := by decide +kernel
theorem d_Wr_writeLetter_7 : decode c_Wr_writeLetter 7 = .ok (.aload_n 0, 1) := by decide +kernel
theorem d_Wr_writeLetter_8 : decode c_Wr_writeLetter 8 = .ok (.getfield 14, 3) := by decide +kernel
theorem d_Wr_writeLetter_11 : decode c_Wr_writeLetter 11 = .ok (.iload_n 3, 1) := by decide +kernel
theorem d_Wr_writeLetter_12 : decode c_Wr_writeLetter 12 = .ok (.invokestatic 62, 3) := by decide +kernel
theorem d_Wr_writeLetter_15 : decode c_Wr_writeLetter 15 = .ok (.ifCond .eq 8, 3) := by decide +kernel
theorem d_Wr_writeLetter_18 : decode c_Wr_writeLetter 18 = .ok (.bipush 63, 2) := by decide +kernel
theorem d_Wr_writeLetter_20 : decode c_Wr_writeLetter 20 = .ok (.goto 4, 3) := by decide +kernel
theorem d_Wr_writeLetter_23 : decode c_Wr_writeLetter 23 = .ok (.iload_n 3, 1) := by decide +kernel
theorem d_Wr_writeLetter_24 : decode c_Wr_writeLetter 24 = .ok (.invokevirtual 34, 3) := by decide +kernel
theorem d_Wr_writeLetter_27 : decode c_Wr_writeLetter 27 = .ok (.return_, 1) := by decide +kernel
theorem d_Wr_writeSigned_0 : decode c_Wr_writeSigned 0 = .ok (.aload_n 0, 1) := by decide +kernel
theorem d_Wr_writeSigned_1 : decode c_Wr_writeSigned 1 = .ok (.getfield 14, 3) := by decide +kernel
theorem d_Wr_writeSigned_4 : decode c_Wr_writeSigned 4 = .ok (.lload_n 1, 1) := by decide +kernel
theorem d_Wr_writeSigned_5 : decode c_Wr_writeSigned 5 = .ok (.lconst 0, 1) := by decide +kernel
theorem d_Wr_writeSigned_6 : decode c_Wr_writeSigned 6 = .ok (.lcmp, 1) := by decide +kernel
theorem d_Wr_writeSigned_7 : decode c_Wr_writeSigned 7 = .ok (.ifCond .ge 7, 3) := by decide +kernel
theorem d_Wr_writeSigned_10 : decode c_Wr_writeSigned 10 = .ok (.iconst 1, 1) := by decide +kernel
theorem d_Wr_writeSigned_11 : decode c_Wr_writeSigned 11 = .ok (.goto 4, 3) := by decide +kernel
theorem d_Wr_writeSigned_14 : decode c_Wr_writeSigned 14 = .ok (.iconst 0, 1) := by decide +kernel
theorem d_Wr_writeSigned_15 : decode c_Wr_writeSigned 15 = .ok (.aload_n 3, 1) := by decide +kernel
theorem d_Wr_writeSigned_16 : decode c_Wr_writeSigned 16 = .ok (.invokevirtual 68, 3) := by decide +kernel
theorem d_Wr_writeSigned_19 : decode c_Wr_writeSigned 19 = .ok (.aload_n 0, 1) := by decide +kernel
theorem d_Wr_writeSigned_20 : decode c_Wr_writeSigned 20 = .ok (.lload_n 1, 1) := by decide +kernel
theorem d_Wr_writeSigned_21 : decode c_Wr_writeSigned 21 = .ok (.lconst 0, 1) := by decide +kernel
theorem d_Wr_writeSigned_22 : decode c_Wr_writeSigned 22 = .ok (.lcmp, 1) := by decide +kernel
theorem d_Wr_writeSigned_23 : decode c_Wr_writeSigned 23 = .ok (.ifCond .ge 8, 3) := by decide +kernel
theorem d_Wr_writeSigned_26 : decode c_Wr_writeSigned 26 = .ok (.lload_n 1, 1) := by decide +kernel
theorem d_Wr_writeSigned_27 : decode c_Wr_writeSigned 27 = .ok (.lneg, 1) := by decide +kernel
theorem d_Wr_writeSigned_28 : decode c_Wr_writeSigned 28 = .ok (.goto 4, 3) := by decide +kernel
theorem d_Wr_writeSigned_31 : decode c_Wr_writeSigned 31 = .ok (.lload_n 1, 1) := by decide +kernel
theorem d_Wr_writeSigned_32 : decode c_Wr_writeSigned 32 = .ok (.bipush 10, 2) := by decide +kernel
theorem d_Wr_writeSigned_34 : decode c_Wr_writeSigned 34 = .ok (.aload_n 3, 1) := by decide +kernel
theorem d_Wr_writeSigned_35 : decode c_Wr_writeSigned 35 = .ok (.invokevirtual 72, 3) := by decide +kernel
theorem d_Wr_writeSigned_38 : decode c_Wr_writeSigned 38 = .ok (.return_, 1) := by decide +kernel
theorem d_Wr_writeUnsigned_0 : decode c_Wr_writeUnsigned 0 = .ok (.iload_n 3, 1) := by decide +kernel
theorem d_Wr_writeUnsigned_1 : decode c_Wr_writeUnsigned 1 = .ok (.bipush 16, 2) := by decide +kernel
theorem d_Wr_writeUnsigned_3 : decode c_Wr_writeUnsigned 3 = .ok (.if_icmp .ne 26, 3) := by decide +kernel
theorem d_Wr_writeUnsigned_6 : decode c_Wr_writeUnsigned 6 = .ok (.aload 4, 2) := by decide +kernel
theorem d_Wr_writeUnsigned_8 : decode c_Wr_writeUnsigned 8 = .ok (.getfield 75, 3) := by decide +kernel
theorem d_Wr_writeUnsigned_11 : decode c_Wr_writeUnsigned 11 = .ok (.ifCond .eq 18, 3) := by decide +kernel
theorem d_Wr_writeUnsigned_14 : decode c_Wr_writeUnsigned 14 = .ok (.lload_n 1, 1) := by decide +kernel
theorem d_Wr_writeUnsigned_15 : decode c_Wr_writeUnsigned 15 = .ok (.lconst 0, 1) := by decide +kernel
theorem d_Wr_writeUnsigned_16 : decode c_Wr_writeUnsigned 16 = .ok (.lcmp, 1) := by decide +kernel
theorem d_Wr_writeUnsigned_17 : decode c_Wr_writeUnsigned 17 = .ok (.ifCond .eq 12, 3) := by decide +kernel
theorem d_Wr_writeUnsigned_20 : decode c_Wr_writeUnsigned 20 = .ok (.aload_n 0, 1) := by decide +kernel
theorem d_Wr_writeUnsigned_21 : decode c_Wr_writeUnsigned 21 = .ok (.getfield 14, 3) := by decide +kernel
theorem d_Wr_writeUnsigned_24 : decode c_Wr_writeUnsigned 24 = .ok (.ldc 78, 2) := by decide +kernel
theorem d_Wr_writeUnsigned_26 : decode c_Wr_writeUnsigned 26 = .ok (.invokevirtual 80, 3) := by decide +kernel
theorem d_Wr_writeUnsigned_29 : decode c_Wr_writeUnsigned 29 = .ok (.aload_n 0, 1) := by decide +kernel
theorem d_Wr_writeUnsigned_30 : decode c_Wr_writeUnsigned 30 = .ok (.lload_n 1, 1) := by decide +kernel
theorem d_Wr_writeUnsigned_31 : decode c_Wr_writeUnsigned 31 = .ok (.iload_n 3, 1) := by decide +kernel
theorem d_Wr_writeUnsigned_32 : decode c_Wr_writeUnsigned 32 = .ok (.aload 4, 2) := by decide +kernel
theorem d_Wr_writeUnsigned_34 : decode c_Wr_writeUnsigned 34 = .ok (.invokevirtual 72, 3) := by decide +kernel
theorem d_Wr_writeUnsigned_37 : decode c_Wr_writeUnsigned 37 = .ok (.return_, 1) := by decide +kernel
theorem d_Wr_writeDigits_0 : decode c_Wr_writeDigits 0 = .ok (.aload 4, 2) := by decide +kernel
theorem d_Wr_writeDigits_2 : decode c_Wr_writeDigits 2 = .ok (.getfield 84, 3) := by decide +kernel
theorem d_Wr_writeDigits_5 : decode c_Wr_writeDigits 5 = .ok (.iconst (-1), 1) := by decide +kernel
theorem d_Wr_writeDigits_6 : decode c_Wr_writeDigits 6 = .ok (.if_icmp .ne 10, 3) := by decide +kernel
theorem d_Wr_writeDigits_9 : decode c_Wr_writeDigits 9 = .ok (.aload_n 0, 1) := by decide +kernel
theorem d_Wr_writeDigits_10 : decode c_Wr_writeDigits 10 = .ok (.getfield 14, 3) := by decide +kernel
theorem d_Wr_writeDigits_13 : decode c_Wr_writeDigits 13 = .ok (.invokevirtual 87, 3) := by decide +kernel
theorem d_Wr_writeDigits_16 : decode c_Wr_writeDigits 16 = .ok (.lload_n 1, 1) := by decide +kernel
theorem d_Wr_writeDigits_17 : decode c_Wr_writeDigits 17 = .ok (.iload_n 3, 1) := by decide +kernel
theorem d_Wr_writeDigits_18 : decode c_Wr_writeDigits 18 = .ok (.invokestatic 90, 3) := by decide +kernel
theorem d_Wr_writeDigits_21 : decode c_Wr_writeDigits 21 = .ok (.istore 5, 2) := by decide +kernel
theorem d_Wr_writeDigits_23 : decode c_Wr_writeDigits 23 = .ok (.iload 5, 2) := by decide +kernel
theorem d_Wr_writeDigits_25 : decode c_Wr_writeDigits 25 = .ok (.aload 4, 2) := by decide +kernel
theorem d_Wr_writeDigits_27 : decode c_Wr_writeDigits 27 = .ok (.getfield 84, 3) := by decide +kernel
theorem d_Wr_writeDigits_30 : decode c_Wr_writeDigits 30 = .ok (.iconst (-1), 1) := by decide +kernel
theorem d_Wr_writeDigits_31 : decode c_Wr_writeDigits 31 = .ok (.if_icmp .ne 7, 3) := by decide +kernel
theorem d_Wr_writeDigits_34 : decode c_Wr_writeDigits 34 = .ok (.iconst 1, 1) := by decide +kernel
theorem d_Wr_writeDigits_35 : decode c_Wr_writeDigits 35 = .ok (.goto 8, 3) := by decide +kernel
theorem d_Wr_writeDigits_38 : decode c_Wr_writeDigits 38 = .ok (.aload 4, 2) := by decide +kernel
theorem d_Wr_writeDigits_40 : decode c_Wr_writeDigits 40 = .ok (.getfield 84, 3) := by decide +kernel
theorem d_Wr_writeDigits_43 : decode c_Wr_writeDigits 43 = .ok (.invokestatic 94, 3) := by decide +kernel
theorem d_Wr_writeDigits_46 : decode c_Wr_writeDigits 46 = .ok (.istore 6, 2) := by decide +kernel
theorem d_Wr_writeDigits_48 : decode c_Wr_writeDigits 48 = .ok (.iload_n 3, 1) := by decide +kernel
theorem d_Wr_writeDigits_49 : decode c_Wr_writeDigits 49 = .ok (.bipush 8, 2) := by decide +kernel
theorem d_Wr_writeDigits_51 : decode c_Wr_writeDigits 51 = .ok (.if_icmp .ne 21, 3) := by decide +kernel
theorem d_Wr_writeDigits_54 : decode c_Wr_writeDigits 54 = .ok (.aload 4, 2) := by decide +kernel
theorem d_Wr_writeDigits_56 : decode c_Wr_writeDigits 56 = .ok (.getfield 75, 3) := by decide +kernel
theorem d_Wr_writeDigits_59 : decode c_Wr_writeDigits 59 = .ok (.ifCond .eq 13, 3) := by decide +kernel
theorem d_Wr_writeDigits_62 : decode c_Wr_writeDigits 62 = .ok (.iload 6, 2) := by decide +kernel
theorem d_Wr_writeDigits_64 : decode c_Wr_writeDigits 64 = .ok (.iload 5, 2) := by decide +kernel
theorem d_Wr_writeDigits_66 : decode c_Wr_writeDigits 66 = .ok (.if_icmp .ne 6, 3) := by decide +kernel
theorem d_Wr_writeDigits_69 : decode c_Wr_writeDigits 69 = .ok (.iinc 6 1, 3) := by decide +kernel
theorem d_Wr_writeDigits_72 : decode c_Wr_writeDigits 72 = .ok (.aload_n 0, 1) := by decide +kernel
theorem d_Wr_writeDigits_73 : decode c_Wr_writeDigits 73 = .ok (.getfield 14, 3) := by decide +kernel
theorem d_Wr_writeDigits_76 : decode c_Wr_writeDigits 76 = .ok (.lload_n 1, 1) := by decide +kernel
theorem d_Wr_writeDigits_77 : decode c_Wr_writeDigits 77 = .ok (.iload_n 3, 1) := by decide +kernel
theorem d_Wr_writeDigits_78 : decode c_Wr_writeDigits 78 = .ok (.iload 6, 2) := by decide +kernel
theorem d_Wr_writeDigits_80 : decode c_Wr_writeDigits 80 = .ok (.invokevirtual 100, 3) := by decide +kernel
theorem d_Wr_writeDigits_83 : decode c_Wr_writeDigits 83 = .ok (.return_, 1) := by decide +kernel
theorem d_Wr_writeFloating_0 : decode c_Wr_writeFloating 0 = .ok (.lload_n 1, 1) := by decide +kernel
theorem d_Wr_writeFloating_1 : decode c_Wr_writeFloating 1 = .ok (.bipush 52, 2) := by decide +kernel
theorem d_Wr_writeFloating_3 : decode c_Wr_writeFloating 3 = .ok (.lushr, 1) := by decide +kernel
theorem d_Wr_writeFloating_4 : decode c_Wr_writeFloating 4 = .ok (.l2i, 1) := by decide +kernel
theorem d_Wr_writeFloating_5 : decode c_Wr_writeFloating 5 = .ok (.sipush 2047, 3) := by decide +kernel
theorem d_Wr_writeFloating_8 : decode c_Wr_writeFloating 8 = .ok (.iand, 1) := by decide +kernel
theorem d_Wr_writeFloating_9 : decode c_Wr_writeFloating 9 = .ok (.istore 4, 2) := by decide +kernel
theorem d_Wr_writeFloating_11 : decode c_Wr_writeFloating 11 = .ok (.lload_n 1, 1) := by decide +kernel
theorem d_Wr_writeFloating_12 : decode c_Wr_writeFloating 12 = .ok (.ldc2_w 104, 3) := by decide +kernel
theorem d_Wr_writeFloating_15 : decode c_Wr_writeFloating 15 = .ok (.land, 1) := by decide +kernel
theorem d_Wr_writeFloating_16 : decode c_Wr_writeFloating 16 = .ok (.lstore 5, 2) := by decide +kernel
theorem d_Wr_writeFloating_18 : decode c_Wr_writeFloating 18 = .ok (.aload_n 0, 1) := by decide +kernel
theorem d_Wr_writeFloating_19 : decode c_Wr_writeFloating 19 = .ok (.getfield 14, 3) := by decide +kernel
theorem d_Wr_writeFloating_22 : decode c_Wr_writeFloating 22 = .ok (.lload_n 1, 1) := by decide +kernel
theorem d_Wr_writeFloating_23 : decode c_Wr_writeFloating 23 = .ok (.lconst 0, 1) := by decide +kernel
theorem d_Wr_writeFloating_24 : decode c_Wr_writeFloating 24 = .ok (.lcmp, 1) := by decide +kernel
theorem d_Wr_writeFloating_25 : decode c_Wr_writeFloating 25 = .ok (.ifCond .ge 7, 3) := by decide +kernel
theorem d_Wr_writeFloating_28 : decode c_Wr_writeFloating 28 = .ok (.iconst 1, 1) := by decide +kernel
theorem d_Wr_writeFloating_29 : decode c_Wr_writeFloating 29 = .ok (.goto 4, 3) := by decide +kernel
theorem d_Wr_writeFloating_32 : decode c_Wr_writeFloating 32 = .ok (.iconst 0, 1) := by decide +kernel
theorem d_Wr_writeFloating_33 : decode c_Wr_writeFloating 33 = .ok (.aload_n 3, 1) := by decide +kernel
theorem d_Wr_writeFloating_34 : decode c_Wr_writeFloating 34 = .ok (.invokevirtual 68, 3) := by decide +kernel
theorem d_Wr_writeFloating_37 : decode c_Wr_writeFloating 37 = .ok (.iload 4, 2) := by decide +kernel
theorem d_Wr_writeFloating_39 : decode c_Wr_writeFloating 39 = .ok (.sipush 2047, 3) := by decide +kernel
theorem d_Wr_writeFloating_42 : decode c_Wr_writeFloating 42 = .ok (.if_icmp .ne 25, 3) := by decide +kernel
theorem d_Wr_writeFloating_45 : decode c_Wr_writeFloating 45 = .ok (.aload_n 0, 1) := by decide +kernel
theorem d_Wr_writeFloating_46 : decode c_Wr_writeFloating 46 = .ok (.getfield 14, 3) := by decide +kernel
theorem d_Wr_writeFloating_49 : decode c_Wr_writeFloating 49 = .ok (.lload 5, 2) := by decide +kernel
theorem d_Wr_writeFloating_51 : decode c_Wr_writeFloating 51 = .ok (.lconst 0, 1) := by decide +kernel
theorem d_Wr_writeFloating_52 : decode c_Wr_writeFloating 52 = .ok (.lcmp, 1) := by decide +kernel
theorem d_Wr_writeFloating_53 : decode c_Wr_writeFloating 53 = .ok (.ifCond .ne 8, 3) := by decide +kernel
theorem d_Wr_writeFloating_56 : decode c_Wr_writeFloating 56 = .ok (.ldc 106, 2) := by decide +kernel
theorem d_Wr_writeFloating_58 : decode c_Wr_writeFloating 58 = .ok (.goto 5, 3) := by decide +kernel
theorem d_Wr_writeFloating_61 : decode c_Wr_writeFloating 61 = .ok (.ldc 108, 2) := by decide +kernel
theorem d_Wr_writeFloating_63 : decode c_Wr_writeFloating 63 = .ok (.invokevirtual 80, 3) := by decide +kernel
theorem d_Wr_writeFloating_66 : decode c_Wr_writeFloating 66 = .ok (.return_, 1) := by decide +kernel
theorem d_Wr_writeFloating_67 : decode c_Wr_writeFloating 67 = .ok (.iload 4, 2) := by decide +kernel
theorem d_Wr_writeFloating_69 : decode c_Wr_writeFloating 69 = .ok (.ifCond .ne 8, 3) := by decide +kernel
theorem d_Wr_writeFloating_72 : decode c_Wr_writeFloating 72 = .ok (.lload 5, 2) := by decide +kernel
theorem d_Wr_writeFloating_74 : decode c_Wr_writeFloating 74 = .ok (.goto 9, 3) := by decide +kernel
theorem d_Wr_writeFloating_77 : decode c_Wr_writeFloating 77 = .ok (.lload 5, 2) := by decide +kernel
theorem d_Wr_writeFloating_79 : decode c_Wr_writeFloating 79 = .ok (.ldc2_w 110, 3) := by decide +kernel
theorem d_Wr_writeFloating_82 : decode c_Wr_writeFloating 82 = .ok (.lor, 1) := by decide +kernel
theorem d_Wr_writeFloating_83 : decode c_Wr_writeFloating 83 = .ok (.lstore 7, 2) := by decide +kernel
theorem d_Wr_writeFloating_85 : decode c_Wr_writeFloating 85 = .ok (.iload 4, 2) := by decide +kernel
theorem d_Wr_writeFloating_87 : decode c_Wr_writeFloating 87 = .ok (.iconst 1, 1) := by decide +kernel
theorem d_Wr_writeFloating_88 : decode c_Wr_writeFloating 88 = .ok (.invokestatic 94, 3) := by decide +kernel
theorem d_Wr_writeFloating_91 : decode c_Wr_writeFloating 91 = .ok (.sipush 1023, 3) := by decide +kernel
theorem d_Wr_writeFloating_94 : decode c_Wr_writeFloating 94 = .ok (.isub, 1) := by decide +kernel
theorem d_Wr_writeFloating_95 : decode c_Wr_writeFloating 95 = .ok (.istore 9, 2) := by decide +kernel
theorem d_Wr_writeFloating_97 : decode c_Wr_writeFloating 97 = .ok (.aload_n 3, 1) := by decide +kernel
theorem d_Wr_writeFloating_98 : decode c_Wr_writeFloating 98 = .ok (.getfield 28, 3) := by decide +kernel
theorem d_Wr_writeFloating_101 : decode c_Wr_writeFloating 101 = .ok (.bipush 97, 2) := by decide +kernel
theorem d_Wr_writeFloating_103 : decode c_Wr_writeFloating 103 = .ok (.if_icmp .ne 15, 3) := by decide +kernel
theorem d_Wr_writeFloating_106 : decode c_Wr_writeFloating 106 = .ok (.aload_n 0, 1) := by decide +kernel
theorem d_Wr_writeFloating_107 : decode c_Wr_writeFloating 107 = .ok (.lload 7, 2) := by decide +kernel
theorem d_Wr_writeFloating_109 : decode c_Wr_writeFloating 109 = .ok (.iload 9, 2) := by decide +kernel
theorem d_Wr_writeFloating_111 : decode c_Wr_writeFloating 111 = .ok (.aload_n 3, 1) := by decide +kernel
theorem d_Wr_writeFloating_112 : decode c_Wr_writeFloating 112 = .ok (.invokevirtual 112, 3) := by decide +kernel
theorem d_Wr_writeFloating_115 : decode c_Wr_writeFloating 115 = .ok (.goto 22, 3) := by decide +kernel
theorem d_Wr_writeFloating_118 : decode c_Wr_writeFloating 118 = .ok (.aload_n 0, 1) := by decide +kernel
theorem d_Wr_writeFloating_119 : decode c_Wr_writeFloating 119 = .ok (.getfield 21, 3) := by decide +kernel
theorem d_Wr_writeFloating_122 : decode c_Wr_writeFloating 122 = .ok (.lload 7, 2) := by decide +kernel
theorem d_Wr_writeFloating_124 : decode c_Wr_writeFloating 124 = .ok (.iload 9, 2) := by decide +kernel
theorem d_Wr_writeFloating_126 : decode c_Wr_writeFloating 126 = .ok (.bipush 52, 2) := by decide +kernel
theorem d_Wr_writeFloating_128 : decode c_Wr_writeFloating 128 = .ok (.isub, 1) := by decide +kernel
theorem d_Wr_writeFloating_129 : decode c_Wr_writeFloating 129 = .ok (.invokevirtual 115, 3) := by decide +kernel
theorem d_Wr_writeFloating_132 : decode c_Wr_writeFloating 132 = .ok (.aload_n 0, 1) := by decide +kernel
theorem d_Wr_writeFloating_133 : decode c_Wr_writeFloating 133 = .ok (.aload_n 3, 1) := by decide +kernel
theorem d_Wr_writeFloating_134 : decode c_Wr_writeFloating 134 = .ok (.invokevirtual 119, 3) := by decide +kernel
theorem d_Wr_writeFloating_137 : decode c_Wr_writeFloating 137 = .ok (.return_, 1) := by decide +kernel
theorem d_Wr_writeDecimal_0 : decode c_Wr_writeDecimal 0 = .ok (.aload_n 1, 1) := by decide +kernel
theorem d_Wr_writeDecimal_1 : decode c_Wr_writeDecimal 1 = .ok (.invokestatic 123, 3) := by decide +kernel
theorem d_Wr_writeDecimal_4 : decode c_Wr_writeDecimal 4 = .ok (.istore_n 2, 1) := by decide +kernel
theorem d_Wr_writeDecimal_5 : decode c_Wr_writeDecimal 5 = .ok (.iload_n 2, 1) := by decide +kernel
theorem d_Wr_writeDecimal_6 : decode c_Wr_writeDecimal 6 = .ok (.istore_n 3, 1) := by decide +kernel
theorem d_Wr_writeDecimal_7 : decode c_Wr_writeDecimal 7 = .ok (.aload_n 1, 1) := by decide +kernel
theorem d_Wr_writeDecimal_8 : decode c_Wr_writeDecimal 8 = .ok (.getfield 28, 3) := by decide +kernel
theorem d_Wr_writeDecimal_11 : decode c_Wr_writeDecimal 11 = .ok (.bipush 102, 2) := by decide +kernel
theorem d_Wr_writeDecimal_13 : decode c_Wr_writeDecimal 13 = .ok (.if_icmp .ne 7, 3) := by decide +kernel
theorem d_Wr_writeDecimal_16 : decode c_Wr_writeDecimal 16 = .ok (.iconst 1, 1) := by decide +kernel
theorem d_Wr_writeDecimal_17 : decode c_Wr_writeDecimal 17 = .ok (.goto 4, 3) := by decide +kernel
theorem d_Wr_writeDecimal_20 : decode c_Wr_writeDecimal 20 = .ok (.iconst 0, 1) := by decide +kernel
theorem d_Wr_writeDecimal_21 : decode c_Wr_writeDecimal 21 = .ok (.istore 4, 2) := by decide +kernel
theorem d_Wr_writeDecimal_23 : decode c_Wr_writeDecimal 23 = .ok (.iload 4, 2) := by decide +kernel
theorem d_Wr_writeDecimal_25 : decode c_Wr_writeDecimal 25 = .ok (.ifCond .eq 22, 3) := by decide +kernel
theorem d_Wr_writeDecimal_28 : decode c_Wr_writeDecimal 28 = .ok (.aload_n 0, 1) := by decide +kernel
theorem d_Wr_writeDecimal_29 : decode c_Wr_writeDecimal 29 = .ok (.getfield 21, 3) := by decide +kernel
theorem d_Wr_writeDecimal_32 : decode c_Wr_writeDecimal 32 = .ok (.aload_n 0, 1) := by decide +kernel
theorem d_Wr_writeDecimal_33 : decode c_Wr_writeDecimal 33 = .ok (.getfield 21, 3) := by decide +kernel
theorem d_Wr_writeDecimal_36 : decode c_Wr_writeDecimal 36 = .ok (.getfield 127, 3) := by decide +kernel
theorem d_Wr_writeDecimal_39 : decode c_Wr_writeDecimal 39 = .ok (.iload_n 2, 1) := by decide +kernel
theorem d_Wr_writeDecimal_40 : decode c_Wr_writeDecimal 40 = .ok (.iadd, 1) := by decide +kernel
theorem d_Wr_writeDecimal_41 : decode c_Wr_writeDecimal 41 = .ok (.invokevirtual 130, 3) := by decide +kernel
theorem d_Wr_writeDecimal_44 : decode c_Wr_writeDecimal 44 = .ok (.goto 121, 3) := by decide +kernel
theorem d_Wr_writeDecimal_47 : decode c_Wr_writeDecimal 47 = .ok (.aload_n 1, 1) := by decide +kernel
theorem d_Wr_writeDecimal_48 : decode c_Wr_writeDecimal 48 = .ok (.getfield 28, 3) := by decide +kernel
theorem d_Wr_writeDecimal_51 : decode c_Wr_writeDecimal 51 = .ok (.bipush 101, 2) := by decide +kernel
theorem d_Wr_writeDecimal_53 : decode c_Wr_writeDecimal 53 = .ok (.if_icmp .ne 16, 3) := by decide +kernel
theorem d_Wr_writeDecimal_56 : decode c_Wr_writeDecimal 56 = .ok (.aload_n 0, 1) := by decide +kernel
theorem d_Wr_writeDecimal_57 : decode c_Wr_writeDecimal 57 = .ok (.getfield 21, 3) := by decide +kernel
theorem d_Wr_writeDecimal_60 : decode c_Wr_writeDecimal 60 = .ok (.iload_n 2, 1) := by decide +kernel
theorem d_Wr_writeDecimal_61 : decode c_Wr_writeDecimal 61 = .ok (.iconst 1, 1) := by decide +kernel
theorem d_Wr_writeDecimal_62 : decode c_Wr_writeDecimal 62 = .ok (.iadd, 1) := by decide +kernel
theorem d_Wr_writeDecimal_63 : decode c_Wr_writeDecimal 63 = .ok (.invokevirtual 130, 3) := by decide +kernel
theorem d_Wr_writeDecimal_66 : decode c_Wr_writeDecimal 66 = .ok (.goto 99, 3) := by decide +kernel
theorem d_Wr_writeDecimal_69 : decode c_Wr_writeDecimal 69 = .ok (.aload_n 0, 1) := by decide +kernel
theorem d_Wr_writeDecimal_70 : decode c_Wr_writeDecimal 70 = .ok (.getfield 21, 3) := by decide +kernel
theorem d_Wr_writeDecimal_73 : decode c_Wr_writeDecimal 73 = .ok (.iload_n 2, 1) := by decide +kernel
theorem d_Wr_writeDecimal_74 : decode c_Wr_writeDecimal 74 = .ok (.invokevirtual 130, 3) := by decide +kernel
theorem d_Wr_writeDecimal_77 : decode c_Wr_writeDecimal 77 = .ok (.aload_n 0, 1) := by decide +kernel
theorem d_Wr_writeDecimal_78 : decode c_Wr_writeDecimal 78 = .ok (.getfield 21, 3) := by decide +kernel
theorem d_Wr_writeDecimal_81 : decode c_Wr_writeDecimal 81 = .ok (.getfield 127, 3) := by decide +kernel
theorem d_Wr_writeDecimal_84 : decode c_Wr_writeDecimal 84 = .ok (.iconst 1, 1) := by decide +kernel
theorem d_Wr_writeDecimal_85 : decode c_Wr_writeDecimal 85 = .ok (.isub, 1) := by decide +kernel
theorem d_Wr_writeDecimal_86 : decode c_Wr_writeDecimal 86 = .ok (.bipush (-4), 2) := by decide +kernel
theorem d_Wr_writeDecimal_88 : decode c_Wr_writeDecimal 88 = .ok (.if_icmp .lt 20, 3) := by decide +kernel
theorem d_Wr_writeDecimal_91 : decode c_Wr_writeDecimal 91 = .ok (.aload_n 0, 1) := by decide +kernel
theorem d_Wr_writeDecimal_92 : decode c_Wr_writeDecimal 92 = .ok (.getfield 21, 3) := by decide +kernel
theorem d_Wr_writeDecimal_95 : decode c_Wr_writeDecimal 95 = .ok (.getfield 127, 3) := by decide +kernel
theorem d_Wr_writeDecimal_98 : decode c_Wr_writeDecimal 98 = .ok (.iconst 1, 1) := by decide +kernel
theorem d_Wr_writeDecimal_99 : decode c_Wr_writeDecimal 99 = .ok (.isub, 1) := by decide +kernel
theorem d_Wr_writeDecimal_100 : decode c_Wr_writeDecimal 100 = .ok (.iload_n 2, 1) := by decide +kernel
theorem d_Wr_writeDecimal_101 : decode c_Wr_writeDecimal 101 = .ok (.if_icmp .ge 7, 3) := by decide +kernel
theorem d_Wr_writeDecimal_104 : decode c_Wr_writeDecimal 104 = .ok (.iconst 1, 1) := by decide +kernel
theorem d_Wr_writeDecimal_105 : decode c_Wr_writeDecimal 105 = .ok (.goto 4, 3) := by decide +kernel
theorem d_Wr_writeDecimal_108 : decode c_Wr_writeDecimal 108 = .ok (.iconst 0, 1) := by decide +kernel
theorem d_Wr_writeDecimal_109 : decode c_Wr_writeDecimal 109 = .ok (.istore 4, 2) := by decide +kernel
theorem d_Wr_writeDecimal_111 : decode c_Wr_writeDecimal 111 = .ok (.iload_n 2, 1) := by decide +kernel
theorem d_Wr_writeDecimal_112 : decode c_Wr_writeDecimal 112 = .ok (.iload 4, 2) := by decide +kernel
theorem d_Wr_writeDecimal_114 : decode c_Wr_writeDecimal 114 = .ok (.ifCond .eq 13, 3) := by decide +kernel
theorem d_Wr_writeDecimal_117 : decode c_Wr_writeDecimal 117 = .ok (.aload_n 0, 1) := by decide +kernel
theorem d_Wr_writeDecimal_118 : decode c_Wr_writeDecimal 118 = .ok (.getfield 21, 3) := by decide +kernel
theorem d_Wr_writeDecimal_121 : decode c_Wr_writeDecimal 121 = .ok (.getfield 127, 3) := by decide +kernel
theorem d_Wr_writeDecimal_124 : decode c_Wr_writeDecimal 124 = .ok (.goto 4, 3) := by decide +kernel
theorem d_Wr_writeDecimal_127 : decode c_Wr_writeDecimal 127 = .ok (.iconst 1, 1) := by decide +kernel
theorem d_Wr_writeDecimal_128 : decode c_Wr_writeDecimal 128 = .ok (.isub, 1) := by decide +kernel
theorem d_Wr_writeDecimal_129 : decode c_Wr_writeDecimal 129 = .ok (.istore_n 3, 1) := by decide +kernel
theorem d_Wr_writeDecimal_130 : decode c_Wr_writeDecimal 130 = .ok (.aload_n 1, 1) := by decide +kernel
theorem d_Wr_writeDecimal_131 : decode c_Wr_writeDecimal 131 = .ok (.getfield 75, 3) := by decide +kernel
theorem d_Wr_writeDecimal_134 : decode c_Wr_writeDecimal 134 = .ok (.ifCond .ne 31, 3) := by decide +kernel
theorem d_Wr_writeDecimal_137 : decode c_Wr_writeDecimal 137 = .ok (.iload_n 3, 1) := by decide +kernel
theorem d_Wr_writeDecimal_138 : decode c_Wr_writeDecimal 138 = .ok (.aload_n 0, 1) := by decide +kernel
theorem d_Wr_writeDecimal_139 : decode c_Wr_writeDecimal 139 = .ok (.getfield 21, 3) := by decide +kernel
theorem d_Wr_writeDecimal_142 : decode c_Wr_writeDecimal 142 = .ok (.iload 4, 2) := by decide +kernel
theorem d_Wr_writeDecimal_144 : decode c_Wr_writeDecimal 144 = .ok (.ifCond .eq 13, 3) := by decide +kernel
theorem d_Wr_writeDecimal_147 : decode c_Wr_writeDecimal 147 = .ok (.aload_n 0, 1) := by decide +kernel
theorem d_Wr_writeDecimal_148 : decode c_Wr_writeDecimal 148 = .ok (.getfield 21, 3) := by decide +kernel
theorem d_Wr_writeDecimal_151 : decode c_Wr_writeDecimal 151 = .ok (.getfield 127, 3) := by decide +kernel
theorem d_Wr_writeDecimal_154 : decode c_Wr_writeDecimal 154 = .ok (.goto 4, 3) := by decide +kernel
theorem d_Wr_writeDecimal_157 : decode c_Wr_writeDecimal 157 = .ok (.iconst 1, 1) := by decide +kernel
theorem d_Wr_writeDecimal_158 : decode c_Wr_writeDecimal 158 = .ok (.invokevirtual 133, 3) := by decide +kernel
theorem d_Wr_writeDecimal_161 : decode c_Wr_writeDecimal 161 = .ok (.invokestatic 137, 3) := by decide +kernel
theorem d_Wr_writeDecimal_164 : decode c_Wr_writeDecimal 164 = .ok (.istore_n 3, 1) := by decide +kernel
theorem d_Wr_writeDecimal_165 : decode c_Wr_writeDecimal 165 = .ok (.aload_n 0, 1) := by decide +kernel
theorem d_Wr_writeDecimal_166 : decode c_Wr_writeDecimal 166 = .ok (.getfield 14, 3) := by decide +kernel
theorem d_Wr_writeDecimal_169 : decode c_Wr_writeDecimal 169 = .ok (.invokevirtual 87, 3) := by decide +kernel
theorem d_Wr_writeDecimal_172 : decode c_Wr_writeDecimal 172 = .ok (.iload 4, 2) := by decide +kernel
theorem d_Wr_writeDecimal_174 : decode c_Wr_writeDecimal 174 = .ok (.ifCond .eq 22, 3) := by decide +kernel
theorem d_Wr_writeDecimal_177 : decode c_Wr_writeDecimal 177 = .ok (.aload_n 0, 1) := by decide +kernel
theorem d_Wr_writeDecimal_178 : decode c_Wr_writeDecimal 178 = .ok (.aload_n 0, 1) := by decide +kernel
theorem d_Wr_writeDecimal_179 : decode c_Wr_writeDecimal 179 = .ok (.getfield 21, 3) := by decide +kernel
theorem d_Wr_writeDecimal_182 : decode c_Wr_writeDecimal 182 = .ok (.getfield 127, 3) := by decide +kernel
theorem d_Wr_writeDecimal_185 : decode c_Wr_writeDecimal 185 = .ok (.iload_n 3, 1) := by decide +kernel
theorem d_Wr_writeDecimal_186 : decode c_Wr_writeDecimal 186 = .ok (.aload_n 1, 1) := by decide +kernel
theorem d_Wr_writeDecimal_187 : decode c_Wr_writeDecimal 187 = .ok (.getfield 75, 3) := by decide +kernel
theorem d_Wr_writeDecimal_190 : decode c_Wr_writeDecimal 190 = .ok (.invokevirtual 140, 3) := by decide +kernel
theorem d_Wr_writeDecimal_193 : decode c_Wr_writeDecimal 193 = .ok (.goto 36, 3) := by decide +kernel
theorem d_Wr_writeDecimal_196 : decode c_Wr_writeDecimal 196 = .ok (.aload_n 0, 1) := by decide +kernel
theorem d_Wr_writeDecimal_197 : decode c_Wr_writeDecimal 197 = .ok (.iconst 1, 1) := by decide +kernel
theorem d_Wr_writeDecimal_198 : decode c_Wr_writeDecimal 198 = .ok (.iload_n 3, 1) := by decide +kernel
theorem d_Wr_writeDecimal_199 : decode c_Wr_writeDecimal 199 = .ok (.aload_n 1, 1) := by decide +kernel
theorem d_Wr_writeDecimal_200 : decode c_Wr_writeDecimal 200 = .ok (.getfield 75, 3) := by decide +kernel
theorem d_Wr_writeDecimal_203 : decode c_Wr_writeDecimal 203 = .ok (.invokevirtual 140, 3) := by decide +kernel
theorem d_Wr_writeDecimal_206 : decode c_Wr_writeDecimal 206 = .ok (.aload_n 0, 1) := by decide +kernel
theorem d_Wr_writeDecimal_207 : decode c_Wr_writeDecimal 207 = .ok (.getfield 14, 3) := by decide +kernel
theorem d_Wr_writeDecimal_210 : decode c_Wr_writeDecimal 210 = .ok (.bipush 101, 2) := by decide +kernel
theorem d_Wr_writeDecimal_212 : decode c_Wr_writeDecimal 212 = .ok (.invokevirtual 34, 3) := by decide +kernel
theorem d_Wr_writeDecimal_215 : decode c_Wr_writeDecimal 215 = .ok (.aload_n 0, 1) := by decide +kernel
theorem d_Wr_writeDecimal_216 : decode c_Wr_writeDecimal 216 = .ok (.aload_n 0, 1) := by decide +kernel
theorem d_Wr_writeDecimal_217 : decode c_Wr_writeDecimal 217 = .ok (.getfield 21, 3) := by decide +kernel
theorem d_Wr_writeDecimal_220 : decode c_Wr_writeDecimal 220 = .ok (.getfield 127, 3) := by decide +kernel
theorem d_Wr_writeDecimal_223 : decode c_Wr_writeDecimal 223 = .ok (.iconst 1, 1) := by decide +kernel
theorem d_Wr_writeDecimal_224 : decode c_Wr_writeDecimal 224 = .ok (.isub, 1) := by decide +kernel
theorem d_Wr_writeDecimal_225 : decode c_Wr_writeDecimal 225 = .ok (.iconst 1, 1) := by decide +kernel
theorem d_Wr_writeDecimal_226 : decode c_Wr_writeDecimal 226 = .ok (.invokevirtual 144, 3) := by decide +kernel
theorem d_Wr_writeDecimal_229 : decode c_Wr_writeDecimal 229 = .ok (.return_, 1) := by decide +kernel
theorem d_Wr_precisionOf_0 : decode c_Wr_precisionOf 0 = .ok (.aload_n 0, 1) := by decide +kernel
theorem d_Wr_precisionOf_1 : decode c_Wr_precisionOf 1 = .ok (.getfield 84, 3) := by decide +kernel
theorem d_Wr_precisionOf_4 : decode c_Wr_precisionOf 4 = .ok (.iconst (-1), 1) := by decide +kernel
theorem d_Wr_precisionOf_5 : decode c_Wr_precisionOf 5 = .ok (.if_icmp .ne 6, 3) := by decide +kernel
theorem d_Wr_precisionOf_8 : decode c_Wr_precisionOf 8 = .ok (.bipush 6, 2) := by decide +kernel
theorem d_Wr_precisionOf_10 : decode c_Wr_precisionOf 10 = .ok (.ireturn, 1) := by decide +kernel
theorem d_Wr_precisionOf_11 : decode c_Wr_precisionOf 11 = .ok (.aload_n 0, 1) := by decide +kernel
theorem d_Wr_precisionOf_12 : decode c_Wr_precisionOf 12 = .ok (.getfield 28, 3) := by decide +kernel
theorem d_Wr_precisionOf_15 : decode c_Wr_precisionOf 15 = .ok (.bipush 103, 2) := by decide +kernel
theorem d_Wr_precisionOf_17 : decode c_Wr_precisionOf 17 = .ok (.if_icmp .ne 14, 3) := by decide +kernel
theorem d_Wr_precisionOf_20 : decode c_Wr_precisionOf 20 = .ok (.aload_n 0, 1) := by decide +kernel
theorem d_Wr_precisionOf_21 : decode c_Wr_precisionOf 21 = .ok (.getfield 84, 3) := by decide +kernel
theorem d_Wr_precisionOf_24 : decode c_Wr_precisionOf 24 = .ok (.iconst 1, 1) := by decide +kernel
theorem d_Wr_precisionOf_25 : decode c_Wr_precisionOf 25 = .ok (.invokestatic 94, 3) := by decide +kernel
theorem d_Wr_precisionOf_28 : decode c_Wr_precisionOf 28 = .ok (.goto 7, 3) := by decide +kernel
theorem d_Wr_precisionOf_31 : decode c_Wr_precisionOf 31 = .ok (.aload_n 0, 1) := by decide +kernel
theorem d_Wr_precisionOf_32 : decode c_Wr_precisionOf 32 = .ok (.getfield 84, 3) := by decide +kernel
theorem d_Wr_precisionOf_35 : decode c_Wr_precisionOf 35 = .ok (.ireturn, 1) := by decide +kernel
theorem d_Wr_putDigits_0 : decode c_Wr_putDigits 0 = .ok (.iconst 0, 1) := by decide +kernel
theorem d_Wr_putDigits_1 : decode c_Wr_putDigits 1 = .ok (.iload_n 1, 1) := by decide +kernel
theorem d_Wr_putDigits_2 : decode c_Wr_putDigits 2 = .ok (.iconst 1, 1) := by decide +kernel
theorem d_Wr_putDigits_3 : decode c_Wr_putDigits 3 = .ok (.isub, 1) := by decide +kernel
theorem d_Wr_putDigits_4 : decode c_Wr_putDigits 4 = .ok (.invokestatic 137, 3) := by decide +kernel
theorem d_Wr_putDigits_7 : decode c_Wr_putDigits 7 = .ok (.istore 4, 2) := by decide +kernel
theorem d_Wr_putDigits_9 : decode c_Wr_putDigits 9 = .ok (.iload 4, 2) := by decide +kernel
theorem d_Wr_putDigits_11 : decode c_Wr_putDigits 11 = .ok (.iload_n 1, 1) := by decide +kernel
theorem d_Wr_putDigits_12 : decode c_Wr_putDigits 12 = .ok (.if_icmp .ge 28, 3) := by decide +kernel
theorem d_Wr_putDigits_15 : decode c_Wr_putDigits 15 = .ok (.aload_n 0, 1) := by decide +kernel
theorem d_Wr_putDigits_16 : decode c_Wr_putDigits 16 = .ok (.getfield 14, 3) := by decide +kernel
theorem d_Wr_putDigits_19 : decode c_Wr_putDigits 19 = .ok (.bipush 48, 2) := by decide +kernel
theorem d_Wr_putDigits_21 : decode c_Wr_putDigits 21 = .ok (.aload_n 0, 1) := by decide +kernel
theorem d_Wr_putDigits_22 : decode c_Wr_putDigits 22 = .ok (.getfield 21, 3) := by decide +kernel
theorem d_Wr_putDigits_25 : decode c_Wr_putDigits 25 = .ok (.iload 4, 2) := by decide +kernel
theorem d_Wr_putDigits_27 : decode c_Wr_putDigits 27 = .ok (.invokevirtual 148, 3) := by decide +kernel
theorem d_Wr_putDigits_30 : decode c_Wr_putDigits 30 = .ok (.iadd, 1) := by decide +kernel
theorem d_Wr_putDigits_31 : decode c_Wr_putDigits 31 = .ok (.invokevirtual 34, 3) := by decide +kernel
theorem d_Wr_putDigits_34 : decode c_Wr_putDigits 34 = .ok (.iinc 4 1, 3) := by decide +kernel
theorem d_Wr_putDigits_37 : decode c_Wr_putDigits 37 = .ok (.goto (-28), 3) := by decide +kernel
theorem d_Wr_putDigits_40 : decode c_Wr_putDigits 40 = .ok (.aload_n 0, 1) := by decide +kernel
theorem d_Wr_putDigits_41 : decode c_Wr_putDigits 41 = .ok (.iload_n 2, 1) := by decide +kernel
theorem d_Wr_putDigits_42 : decode c_Wr_putDigits 42 = .ok (.iload_n 3, 1) := by decide +kernel
theorem d_Wr_putDigits_43 : decode c_Wr_putDigits 43 = .ok (.invokevirtual 151, 3) := by decide +kernel
theorem d_Wr_putDigits_46 : decode c_Wr_putDigits 46 = .ok (.iconst 0, 1) := by decide +kernel
theorem d_Wr_putDigits_47 : decode c_Wr_putDigits 47 = .ok (.istore 4, 2) := by decide +kernel
theorem d_Wr_putDigits_49 : decode c_Wr_putDigits 49 = .ok (.iload 4, 2) := by decide +kernel
theorem d_Wr_putDigits_51 : decode c_Wr_putDigits 51 = .ok (.iload_n 2, 1) := by decide +kernel
theorem d_Wr_putDigits_52 : decode c_Wr_putDigits 52 = .ok (.if_icmp .ge 30, 3) := by decide +kernel
theorem d_Wr_putDigits_55 : decode c_Wr_putDigits 55 = .ok (.aload_n 0, 1) := by decide +kernel
theorem d_Wr_putDigits_56 : decode c_Wr_putDigits 56 = .ok (.getfield 14, 3) := by decide +kernel
theorem d_Wr_putDigits_59 : decode c_Wr_putDigits 59 = .ok (.bipush 48, 2) := by decide +kernel
theorem d_Wr_putDigits_61 : decode c_Wr_putDigits 61 = .ok (.aload_n 0, 1) := by decide +kernel
theorem d_Wr_putDigits_62 : decode c_Wr_putDigits 62 = .ok (.getfield 21, 3) := by decide +kernel
theorem d_Wr_putDigits_65 : decode c_Wr_putDigits 65 = .ok (.iload_n 1, 1) := by decide +kernel
theorem d_Wr_putDigits_66 : decode c_Wr_putDigits 66 = .ok (.iload 4, 2) := by decide +kernel
theorem d_Wr_putDigits_68 : decode c_Wr_putDigits 68 = .ok (.iadd, 1) := by decide +kernel
theorem d_Wr_putDigits_69 : decode c_Wr_putDigits 69 = .ok (.invokevirtual 148, 3) := by decide +kernel
theorem d_Wr_putDigits_72 : decode c_Wr_putDigits 72 = .ok (.iadd, 1) := by decide +kernel
theorem d_Wr_putDigits_73 : decode c_Wr_putDigits 73 = .ok (.invokevirtual 34, 3) := by decide +kernel
theorem d_Wr_putDigits_76 : decode c_Wr_putDigits 76 = .ok (.iinc 4 1, 3) := by decide +kernel
theorem d_Wr_putDigits_79 : decode c_Wr_putDigits 79 = .ok (.goto (-30), 3) := by decide +kernel
theorem d_Wr_putDigits_82 : decode c_Wr_putDigits 82 = .ok (.return_, 1) := by decide +kernel
theorem d_Wr_putPoint_0 : decode c_Wr_putPoint 0 = .ok (.iload_n 1, 1) := by decide +kernel
theorem d_Wr_putPoint_1 : decode c_Wr_putPoint 1 = .ok (.ifCond .gt 7, 3) := by decide +kernel
theorem d_Wr_putPoint_4 : decode c_Wr_putPoint 4 = .ok (.iload_n 2, 1) := by decide +kernel
theorem d_Wr_putPoint_5 : decode c_Wr_putPoint 5 = .ok (.ifCond .eq 12, 3) := by decide +kernel
theorem d_Wr_putPoint_8 : decode c_Wr_putPoint 8 = .ok (.aload_n 0, 1) := by decide +kernel
theorem d_Wr_putPoint_9 : decode c_Wr_putPoint 9 = .ok (.getfield 14, 3) := by decide +kernel
theorem d_Wr_putPoint_12 : decode c_Wr_putPoint 12 = .ok (.bipush 46, 2) := by decide +kernel
theorem d_Wr_putPoint_14 : decode c_Wr_putPoint 14 = .ok (.invokevirtual 34, 3) := by decide +kernel
theorem d_Wr_putPoint_17 : decode c_Wr_putPoint 17 = .ok (.return_, 1) := by decide +kernel
theorem d_Wr_putExponent_0 : decode c_Wr_putExponent 0 = .ok (.iload_n 1, 1) := by decide +kernel
theorem d_Wr_putExponent_1 : decode c_Wr_putExponent 1 = .ok (.ifCond .ge 8, 3) := by decide +kernel
theorem d_Wr_putExponent_4 : decode c_Wr_putExponent 4 = .ok (.iload_n 1, 1) := by decide +kernel
theorem d_Wr_putExponent_5 : decode c_Wr_putExponent 5 = .ok (.ineg, 1) := by decide +kernel
theorem d_Wr_putExponent_6 : decode c_Wr_putExponent 6 = .ok (.goto 4, 3) := by decide +kernel
theorem d_Wr_putExponent_9 : decode c_Wr_putExponent 9 = .ok (.iload_n 1, 1) := by decide +kernel
theorem d_Wr_putExponent_10 : decode c_Wr_putExponent 10 = .ok (.istore_n 3, 1) := by decide +kernel
theorem d_Wr_putExponent_11 : decode c_Wr_putExponent 11 = .ok (.aload_n 0, 1) := by decide +kernel
theorem d_Wr_putExponent_12 : decode c_Wr_putExponent 12 = .ok (.getfield 14, 3) := by decide +kernel
theorem d_Wr_putExponent_15 : decode c_Wr_putExponent 15 = .ok (.iload_n 1, 1) := by decide +kernel
theorem d_Wr_putExponent_16 : decode c_Wr_putExponent 16 = .ok (.ifCond .ge 8, 3) := by decide +kernel
theorem d_Wr_putExponent_19 : decode c_Wr_putExponent 19 = .ok (.bipush 45, 2) := by decide +kernel
theorem d_Wr_putExponent_21 : decode c_Wr_putExponent 21 = .ok (.goto 5, 3) := by decide +kernel
theorem d_Wr_putExponent_24 : decode c_Wr_putExponent 24 = .ok (.bipush 43, 2) := by decide +kernel
theorem d_Wr_putExponent_26 : decode c_Wr_putExponent 26 = .ok (.invokevirtual 34, 3) := by decide +kernel
theorem d_Wr_putExponent_29 : decode c_Wr_putExponent 29 = .ok (.iload_n 3, 1) := by decide +kernel
theorem d_Wr_putExponent_30 : decode c_Wr_putExponent 30 = .ok (.sipush 1000, 3) := by decide +kernel
theorem d_Wr_putExponent_33 : decode c_Wr_putExponent 33 = .ok (.if_icmp .lt 18, 3) := by decide +kernel
theorem d_Wr_putExponent_36 : decode c_Wr_putExponent 36 = .ok (.aload_n 0, 1) := by decide +kernel
theorem d_Wr_putExponent_37 : decode c_Wr_putExponent 37 = .ok (.getfield 14, 3) := by decide +kernel
theorem d_Wr_putExponent_40 : decode c_Wr_putExponent 40 = .ok (.bipush 48, 2) := by decide +kernel
theorem d_Wr_putExponent_42 : decode c_Wr_putExponent 42 = .ok (.iload_n 3, 1) := by decide +kernel
theorem d_Wr_putExponent_43 : decode c_Wr_putExponent 43 = .ok (.sipush 1000, 3) := by decide +kernel
theorem d_Wr_putExponent_46 : decode c_Wr_putExponent 46 = .ok (.idiv, 1) := by decide +kernel
theorem d_Wr_putExponent_47 : decode c_Wr_putExponent 47 = .ok (.iadd, 1) := by decide +kernel
theorem d_Wr_putExponent_48 : decode c_Wr_putExponent 48 = .ok (.invokevirtual 34, 3) := by decide +kernel
theorem d_Wr_putExponent_51 : decode c_Wr_putExponent 51 = .ok (.iload_n 3, 1) := by decide +kernel
theorem d_Wr_putExponent_52 : decode c_Wr_putExponent 52 = .ok (.bipush 100, 2) := by decide +kernel
theorem d_Wr_putExponent_54 : decode c_Wr_putExponent 54 = .ok (.if_icmp .lt 20, 3) := by decide +kernel
theorem d_Wr_putExponent_57 : decode c_Wr_putExponent 57 = .ok (.aload_n 0, 1) := by decide +kernel
theorem d_Wr_putExponent_58 : decode c_Wr_putExponent 58 = .ok (.getfield 14, 3) := by decide +kernel
theorem d_Wr_putExponent_61 : decode c_Wr_putExponent 61 = .ok (.bipush 48, 2) := by decide +kernel
theorem d_Wr_putExponent_63 : decode c_Wr_putExponent 63 = .ok (.iload_n 3, 1) := by decide +kernel
theorem d_Wr_putExponent_64 : decode c_Wr_putExponent 64 = .ok (.bipush 100, 2) := by decide +kernel
theorem d_Wr_putExponent_66 : decode c_Wr_putExponent 66 = .ok (.idiv, 1) := by decide +kernel
theorem d_Wr_putExponent_67 : decode c_Wr_putExponent 67 = .ok (.bipush 10, 2) := by decide +kernel
theorem d_Wr_putExponent_69 : decode c_Wr_putExponent 69 = .ok (.irem, 1) := by decide +kernel
theorem d_Wr_putExponent_70 : decode c_Wr_putExponent 70 = .ok (.iadd, 1) := by decide +kernel
theorem d_Wr_putExponent_71 : decode c_Wr_putExponent 71 = .ok (.invokevirtual 34, 3) := by decide +kernel
theorem d_Wr_putExponent_74 : decode c_Wr_putExponent 74 = .ok (.iload_n 3, 1) := by decide +kernel
theorem d_Wr_putExponent_75 : decode c_Wr_putExponent 75 = .ok (.bipush 10, 2) := by decide +kernel
theorem d_Wr_putExponent_77 : decode c_Wr_putExponent 77 = .ok (.if_icmp .ge 7, 3) := by decide +kernel
theorem d_Wr_putExponent_80 : decode c_Wr_putExponent 80 = .ok (.iload_n 2, 1) := by decide +kernel
theorem d_Wr_putExponent_81 : decode c_Wr_putExponent 81 = .ok (.ifCond .eq 20, 3) := by decide +kernel
theorem d_Wr_putExponent_84 : decode c_Wr_putExponent 84 = .ok (.aload_n 0, 1) := by decide +kernel
theorem d_Wr_putExponent_85 : decode c_Wr_putExponent 85 = .ok (.getfield 14, 3) := by decide +kernel
theorem d_Wr_putExponent_88 : decode c_Wr_putExponent 88 = .ok (.bipush 48, 2) := by decide +kernel
theorem d_Wr_putExponent_90 : decode c_Wr_putExponent 90 = .ok (.iload_n 3, 1) := by decide +kernel
theorem d_Wr_putExponent_91 : decode c_Wr_putExponent 91 = .ok (.bipush 10, 2) := by decide +kernel
theorem d_Wr_putExponent_93 : decode c_Wr_putExponent 93 = .ok (.idiv, 1) := by decide +kernel
theorem d_Wr_putExponent_94 : decode c_Wr_putExponent 94 = .ok (.bipush 10, 2) := by decide +kernel
theorem d_Wr_putExponent_96 : decode c_Wr_putExponent 96 = .ok (.irem, 1) := by decide +kernel
theorem d_Wr_putExponent_97 : decode c_Wr_putExponent 97 = .ok (.iadd, 1) := by decide +kernel
theorem d_Wr_putExponent_98 : decode c_Wr_putExponent 98 = .ok (.invokevirtual 34, 3) := by decide +kernel
theorem d_Wr_putExponent_101 : decode c_Wr_putExponent 101 = .ok (.aload_n 0, 1) := by decide +kernel
theorem d_Wr_putExponent_102 : decode c_Wr_putExponent 102 = .ok (.getfield 14, 3) := by decide +kernel
theorem d_Wr_putExponent_105 : decode c_Wr_putExponent 105 = .ok (.bipush 48, 2) := by decide +kernel
theorem d_Wr_putExponent_107 : decode c_Wr_putExponent 107 = .ok (.iload_n 3, 1) := by decide +kernel
theorem d_Wr_putExponent_108 : decode c_Wr_putExponent 108 = .ok (.bipush 10, 2) := by decide +kernel
theorem d_Wr_putExponent_110 : decode c_Wr_putExponent 110 = .ok (.irem, 1) := by decide +kernel
theorem d_Wr_putExponent_111 : decode c_Wr_putExponent 111 = .ok (.iadd, 1) := by decide +kernel
theorem d_Wr_putExponent_112 : decode c_Wr_putExponent 112 = .ok (.invokevirtual 34, 3) := by decide +kernel
theorem d_Wr_putExponent_115 : decode c_Wr_putExponent 115 = .ok (.return_, 1) := by decide +kernel
theorem d_Wr_writeHexadecimal_0 : decode c_Wr_writeHexadecimal 0 = .ok (.aload 4, 2) := by decide +kernel
theorem d_Wr_writeHexadecimal_2 : decode c_Wr_writeHexadecimal 2 = .ok (.getfield 84, 3) := by decide +kernel
theorem d_Wr_writeHexadecimal_5 : decode c_Wr_writeHexadecimal 5 = .ok (.iconst (-1), 1) := by decide +kernel
theorem d_Wr_writeHexadecimal_6 : decode c_Wr_writeHexadecimal 6 = .ok (.if_icmp .ne 10, 3) := by decide +kernel
theorem d_Wr_writeHexadecimal_9 : decode c_Wr_writeHexadecimal 9 = .ok (.lload_n 1, 1) := by decide +kernel
theorem d_Wr_writeHexadecimal_10 : decode c_Wr_writeHexadecimal 10 = .ok (.invokestatic 154, 3) := by decide +kernel
theorem d_Wr_writeHexadecimal_13 : decode c_Wr_writeHexadecimal 13 = .ok (.goto 8, 3) := by decide +kernel
theorem d_Wr_writeHexadecimal_16 : decode c_Wr_writeHexadecimal 16 = .ok (.aload 4, 2) := by decide +kernel
theorem d_Wr_writeHexadecimal_18 : decode c_Wr_writeHexadecimal 18 = .ok (.getfield 84, 3) := by decide +kernel
theorem d_Wr_writeHexadecimal_21 : decode c_Wr_writeHexadecimal 21 = .ok (.istore 5, 2) := by decide +kernel
theorem d_Wr_writeHexadecimal_23 : decode c_Wr_writeHexadecimal 23 = .ok (.lload_n 1, 1) := by decide +kernel
theorem d_Wr_writeHexadecimal_24 : decode c_Wr_writeHexadecimal 24 = .ok (.iload 5, 2) := by decide +kernel
theorem d_Wr_writeHexadecimal_26 : decode c_Wr_writeHexadecimal 26 = .ok (.invokestatic 158, 3) := by decide +kernel
theorem d_Wr_writeHexadecimal_29 : decode c_Wr_writeHexadecimal 29 = .ok (.lstore 6, 2) := by decide +kernel
theorem d_Wr_writeHexadecimal_31 : decode c_Wr_writeHexadecimal 31 = .ok (.aload_n 0, 1) := by decide +kernel
theorem d_Wr_writeHexadecimal_32 : decode c_Wr_writeHexadecimal 32 = .ok (.getfield 14, 3) := by decide +kernel
theorem d_Wr_writeHexadecimal_35 : decode c_Wr_writeHexadecimal 35 = .ok (.ldc 78, 2) := by decide +kernel
theorem d_Wr_writeHexadecimal_37 : decode c_Wr_writeHexadecimal 37 = .ok (.invokevirtual 80, 3) := by decide +kernel
theorem d_Wr_writeHexadecimal_40 : decode c_Wr_writeHexadecimal 40 = .ok (.aload_n 0, 1) := by decide +kernel
theorem d_Wr_writeHexadecimal_41 : decode c_Wr_writeHexadecimal 41 = .ok (.getfield 14, 3) := by decide +kernel
theorem d_Wr_writeHexadecimal_44 : decode c_Wr_writeHexadecimal 44 = .ok (.invokevirtual 87, 3) := by decide +kernel
theorem d_Wr_writeHexadecimal_47 : decode c_Wr_writeHexadecimal 47 = .ok (.aload_n 0, 1) := by decide +kernel
theorem d_Wr_writeHexadecimal_48 : decode c_Wr_writeHexadecimal 48 = .ok (.getfield 14, 3) := by decide +kernel
theorem d_Wr_writeHexadecimal_51 : decode c_Wr_writeHexadecimal 51 = .ok (.lload 6, 2) := by decide +kernel
theorem d_Wr_writeHexadecimal_53 : decode c_Wr_writeHexadecimal 53 = .ok (.bipush 52, 2) := by decide +kernel
theorem d_Wr_writeHexadecimal_55 : decode c_Wr_writeHexadecimal 55 = .ok (.lushr, 1) := by decide +kernel
theorem d_Wr_writeHexadecimal_56 : decode c_Wr_writeHexadecimal 56 = .ok (.l2i, 1) := by decide +kernel
theorem d_Wr_writeHexadecimal_57 : decode c_Wr_writeHexadecimal 57 = .ok (.invokevirtual 162, 3) := by decide +kernel
theorem d_Wr_writeHexadecimal_60 : decode c_Wr_writeHexadecimal 60 = .ok (.aload_n 0, 1) := by decide +kernel
theorem d_Wr_writeHexadecimal_61 : decode c_Wr_writeHexadecimal 61 = .ok (.iload 5, 2) := by decide +kernel
theorem d_Wr_writeHexadecimal_63 : decode c_Wr_writeHexadecimal 63 = .ok (.aload 4, 2) := by decide +kernel
theorem d_Wr_writeHexadecimal_65 : decode c_Wr_writeHexadecimal 65 = .ok (.getfield 75, 3) := by decide +kernel
theorem d_Wr_writeHexadecimal_68 : decode c_Wr_writeHexadecimal 68 = .ok (.invokevirtual 151, 3) := by decide +kernel
theorem d_Wr_writeHexadecimal_71 : decode c_Wr_writeHexadecimal 71 = .ok (.iconst 1, 1) := by decide +kernel
theorem d_Wr_writeHexadecimal_72 : decode c_Wr_writeHexadecimal 72 = .ok (.istore 8, 2) := by decide +kernel
theorem d_Wr_writeHexadecimal_74 : decode c_Wr_writeHexadecimal 74 = .ok (.iload 8, 2) := by decide +kernel
theorem d_Wr_writeHexadecimal_76 : decode c_Wr_writeHexadecimal 76 = .ok (.iload 5, 2) := by decide +kernel
theorem d_Wr_writeHexadecimal_78 : decode c_Wr_writeHexadecimal 78 = .ok (.if_icmp .gt 41, 3) := by decide +kernel
theorem d_Wr_writeHexadecimal_81 : decode c_Wr_writeHexadecimal 81 = .ok (.aload_n 0, 1) := by decide +kernel
theorem d_Wr_writeHexadecimal_82 : decode c_Wr_writeHexadecimal 82 = .ok (.getfield 14, 3) := by decide +kernel
theorem d_Wr_writeHexadecimal_85 : decode c_Wr_writeHexadecimal 85 = .ok (.iload 8, 2) := by decide +kernel
theorem d_Wr_writeHexadecimal_87 : decode c_Wr_writeHexadecimal 87 = .ok (.bipush 13, 2) := by decide +kernel
theorem d_Wr_writeHexadecimal_89 : decode c_Wr_writeHexadecimal 89 = .ok (.if_icmp .gt 20, 3) := by decide +kernel
theorem d_Wr_writeHexadecimal_92 : decode c_Wr_writeHexadecimal 92 = .ok (.lload 6, 2) := by decide +kernel
theorem d_Wr_writeHexadecimal_94 : decode c_Wr_writeHexadecimal 94 = .ok (.bipush 52, 2) := by decide +kernel
theorem d_Wr_writeHexadecimal_96 : decode c_Wr_writeHexadecimal 96 = .ok (.iconst 4, 1) := by decide +kernel
theorem d_Wr_writeHexadecimal_97 : decode c_Wr_writeHexadecimal 97 = .ok (.iload 8, 2) := by decide +kernel
theorem d_Wr_writeHexadecimal_99 : decode c_Wr_writeHexadecimal 99 = .ok (.imul, 1) := by decide +kernel
theorem d_Wr_writeHexadecimal_100 : decode c_Wr_writeHexadecimal 100 = .ok (.isub, 1) := by decide +kernel
theorem d_Wr_writeHexadecimal_101 : decode c_Wr_writeHexadecimal 101 = .ok (.lushr, 1) := by decide +kernel
theorem d_Wr_writeHexadecimal_102 : decode c_Wr_writeHexadecimal 102 = .ok (.l2i, 1) := by decide +kernel
theorem d_Wr_writeHexadecimal_103 : decode c_Wr_writeHexadecimal 103 = .ok (.bipush 15, 2) := by decide +kernel
theorem d_Wr_writeHexadecimal_105 : decode c_Wr_writeHexadecimal 105 = .ok (.iand, 1) := by decide +kernel
theorem d_Wr_writeHexadecimal_106 : decode c_Wr_writeHexadecimal 106 = .ok (.goto 4, 3) := by decide +kernel
theorem d_Wr_writeHexadecimal_109 : decode c_Wr_writeHexadecimal 109 = .ok (.iconst 0, 1) := by decide +kernel
theorem d_Wr_writeHexadecimal_110 : decode c_Wr_writeHexadecimal 110 = .ok (.invokevirtual 162, 3) := by decide +kernel
theorem d_Wr_writeHexadecimal_113 : decode c_Wr_writeHexadecimal 113 = .ok (.iinc 8 1, 3) := by decide +kernel
theorem d_Wr_writeHexadecimal_116 : decode c_Wr_writeHexadecimal 116 = .ok (.goto (-42), 3) := by decide +kernel
theorem d_Wr_writeHexadecimal_119 : decode c_Wr_writeHexadecimal 119 = .ok (.aload_n 0, 1) := by decide +kernel
theorem d_Wr_writeHexadecimal_120 : decode c_Wr_writeHexadecimal 120 = .ok (.getfield 14, 3) := by decide +kernel
theorem d_Wr_writeHexadecimal_123 : decode c_Wr_writeHexadecimal 123 = .ok (.bipush 112, 2) := by decide +kernel
theorem d_Wr_writeHexadecimal_125 : decode c_Wr_writeHexadecimal 125 = .ok (.invokevirtual 34, 3) := by decide +kernel
theorem d_Wr_writeHexadecimal_128 : decode c_Wr_writeHexadecimal 128 = .ok (.aload_n 0, 1) := by decide +kernel
theorem d_Wr_writeHexadecimal_129 : decode c_Wr_writeHexadecimal 129 = .ok (.lload_n 1, 1) := by decide +kernel
theorem d_Wr_writeHexadecimal_130 : decode c_Wr_writeHexadecimal 130 = .ok (.lconst 0, 1) := by decide +kernel
theorem d_Wr_writeHexadecimal_131 : decode c_Wr_writeHexadecimal 131 = .ok (.lcmp, 1) := by decide +kernel
theorem d_Wr_writeHexadecimal_132 : decode c_Wr_writeHexadecimal 132 = .ok (.ifCond .ne 7, 3) := by decide +kernel
theorem d_Wr_writeHexadecimal_135 : decode c_Wr_writeHexadecimal 135 = .ok (.iconst 0, 1) := by decide +kernel
theorem d_Wr_writeHexadecimal_136 : decode c_Wr_writeHexadecimal 136 = .ok (.goto 4, 3) := by decide +kernel
theorem d_Wr_writeHexadecimal_139 : decode c_Wr_writeHexadecimal 139 = .ok (.iload_n 3, 1) := by decide +kernel
theorem d_Wr_writeHexadecimal_140 : decode c_Wr_writeHexadecimal 140 = .ok (.iconst 0, 1) := by decide +kernel
theorem d_Wr_writeHexadecimal_141 : decode c_Wr_writeHexadecimal 141 = .ok (.invokevirtual 144, 3) := by decide +kernel
theorem d_Wr_writeHexadecimal_144 : decode c_Wr_writeHexadecimal 144 = .ok (.return_, 1) := by decide +kernel
theorem d_Wr_hexadecimalDigitsOf_0 : decode c_Wr_hexadecimalDigitsOf 0 = .ok (.bipush 13, 2) := by decide +kernel
theorem d_Wr_hexadecimalDigitsOf_2 : decode c_Wr_hexadecimalDigitsOf 2 = .ok (.istore_n 2, 1) := by decide +kernel
theorem d_Wr_hexadecimalDigitsOf_3 : decode c_Wr_hexadecimalDigitsOf 3 = .ok (.iload_n 2, 1) := by decide +kernel
theorem d_Wr_hexadecimalDigitsOf_4 : decode c_Wr_hexadecimalDigitsOf 4 = .ok (.ifCond .le 28, 3) := by decide +kernel
theorem d_Wr_hexadecimalDigitsOf_7 : decode c_Wr_hexadecimalDigitsOf 7 = .ok (.lload_n 0, 1) := by decide +kernel
theorem d_Wr_hexadecimalDigitsOf_8 : decode c_Wr_hexadecimalDigitsOf 8 = .ok (.bipush 52, 2) := by decide +kernel
theorem d_Wr_hexadecimalDigitsOf_10 : decode c_Wr_hexadecimalDigitsOf 10 = .ok (.iconst 4, 1) := by decide +kernel
theorem d_Wr_hexadecimalDigitsOf_11 : decode c_Wr_hexadecimalDigitsOf 11 = .ok (.iload_n 2, 1) := by decide +kernel
theorem d_Wr_hexadecimalDigitsOf_12 : decode c_Wr_hexadecimalDigitsOf 12 = .ok (.imul, 1) := by decide +kernel
theorem d_Wr_hexadecimalDigitsOf_13 : decode c_Wr_hexadecimalDigitsOf 13 = .ok (.isub, 1) := by decide +kernel
theorem d_Wr_hexadecimalDigitsOf_14 : decode c_Wr_hexadecimalDigitsOf 14 = .ok (.lushr, 1) := by decide +kernel
theorem d_Wr_hexadecimalDigitsOf_15 : decode c_Wr_hexadecimalDigitsOf 15 = .ok (.ldc2_w 165, 3) := by decide +kernel
theorem d_Wr_hexadecimalDigitsOf_18 : decode c_Wr_hexadecimalDigitsOf 18 = .ok (.land, 1) := by decide +kernel
theorem d_Wr_hexadecimalDigitsOf_19 : decode c_Wr_hexadecimalDigitsOf 19 = .ok (.lconst 0, 1) := by decide +kernel
theorem d_Wr_hexadecimalDigitsOf_20 : decode c_Wr_hexadecimalDigitsOf 20 = .ok (.lcmp, 1) := by decide +kernel
theorem d_Wr_hexadecimalDigitsOf_21 : decode c_Wr_hexadecimalDigitsOf 21 = .ok (.ifCond .eq 5, 3) := by decide +kernel
theorem d_Wr_hexadecimalDigitsOf_24 : decode c_Wr_hexadecimalDigitsOf 24 = .ok (.iload_n 2, 1) := by decide +kernel
theorem d_Wr_hexadecimalDigitsOf_25 : decode c_Wr_hexadecimalDigitsOf 25 = .ok (.ireturn, 1) := by decide +kernel
theorem d_Wr_hexadecimalDigitsOf_26 : decode c_Wr_hexadecimalDigitsOf 26 = .ok (.iinc 2 (-1), 3) := by decide +kernel
theorem d_Wr_hexadecimalDigitsOf_29 : decode c_Wr_hexadecimalDigitsOf 29 = .ok (.goto (-26), 3) := by decide +kernel
theorem d_Wr_hexadecimalDigitsOf_32 : decode c_Wr_hexadecimalDigitsOf 32 = .ok (.iconst 0, 1) := by decide +kernel
theorem d_Wr_hexadecimalDigitsOf_33 : decode c_Wr_hexadecimalDigitsOf 33 = .ok (.ireturn, 1) := by decide +kernel
theorem d_Wr_roundHexadecimal_0 : decode c_Wr_roundHexadecimal 0 = .ok (.iload_n 2, 1) := by decide +kernel
theorem d_Wr_roundHexadecimal_1 : decode c_Wr_roundHexadecimal 1 = .ok (.bipush 13, 2) := by decide +kernel
theorem d_Wr_roundHexadecimal_3 : decode c_Wr_roundHexadecimal 3 = .ok (.if_icmp .lt 5, 3) := by decide +kernel
theorem d_Wr_roundHexadecimal_6 : decode c_Wr_roundHexadecimal 6 = .ok (.lload_n 0, 1) := by decide +kernel
theorem d_Wr_roundHexadecimal_7 : decode c_Wr_roundHexadecimal 7 = .ok (.lreturn, 1) := by decide +kernel
theorem d_Wr_roundHexadecimal_8 : decode c_Wr_roundHexadecimal 8 = .ok (.iconst 4, 1) := by decide +kernel
theorem d_Wr_roundHexadecimal_9 : decode c_Wr_roundHexadecimal 9 = .ok (.bipush 13, 2) := by decide +kernel
theorem d_Wr_roundHexadecimal_11 : decode c_Wr_roundHexadecimal 11 = .ok (.iload_n 2, 1) := by decide +kernel
theorem d_Wr_roundHexadecimal_12 : decode c_Wr_roundHexadecimal 12 = .ok (.isub, 1) := by decide +kernel
theorem d_Wr_roundHexadecimal_13 : decode c_Wr_roundHexadecimal 13 = .ok (.imul, 1) := by decide +kernel
theorem d_Wr_roundHexadecimal_14 : decode c_Wr_roundHexadecimal 14 = .ok (.istore_n 3, 1) := by decide +kernel
theorem d_Wr_roundHexadecimal_15 : decode c_Wr_roundHexadecimal 15 = .ok (.lconst 1, 1) := by decide +kernel
theorem d_Wr_roundHexadecimal_16 : decode c_Wr_roundHexadecimal 16 = .ok (.iload_n 3, 1) := by decide +kernel
theorem d_Wr_roundHexadecimal_17 : decode c_Wr_roundHexadecimal 17 = .ok (.iconst 1, 1) := by decide +kernel
theorem d_Wr_roundHexadecimal_18 : decode c_Wr_roundHexadecimal 18 = .ok (.isub, 1) := by decide +kernel
theorem d_Wr_roundHexadecimal_19 : decode c_Wr_roundHexadecimal 19 = .ok (.lshl, 1) := by decide +kernel
theorem d_Wr_roundHexadecimal_20 : decode c_Wr_roundHexadecimal 20 = .ok (.lstore 4, 2) := by decide +kernel
theorem d_Wr_roundHexadecimal_22 : decode c_Wr_roundHexadecimal 22 = .ok (.lload_n 0, 1) := by decide +kernel
theorem d_Wr_roundHexadecimal_23 : decode c_Wr_roundHexadecimal 23 = .ok (.lconst 1, 1) := by decide +kernel
theorem d_Wr_roundHexadecimal_24 : decode c_Wr_roundHexadecimal 24 = .ok (.iload_n 3, 1) := by decide +kernel
theorem d_Wr_roundHexadecimal_25 : decode c_Wr_roundHexadecimal 25 = .ok (.lshl, 1) := by decide +kernel
theorem d_Wr_roundHexadecimal_26 : decode c_Wr_roundHexadecimal 26 = .ok (.lconst 1, 1) := by decide +kernel
theorem d_Wr_roundHexadecimal_27 : decode c_Wr_roundHexadecimal 27 = .ok (.lsub, 1) := by decide +kernel
theorem d_Wr_roundHexadecimal_28 : decode c_Wr_roundHexadecimal 28 = .ok (.land, 1) := by decide +kernel
theorem d_Wr_roundHexadecimal_29 : decode c_Wr_roundHexadecimal 29 = .ok (.lstore 6, 2) := by decide +kernel
theorem d_Wr_roundHexadecimal_31 : decode c_Wr_roundHexadecimal 31 = .ok (.lload_n 0, 1) := by decide +kernel
theorem d_Wr_roundHexadecimal_32 : decode c_Wr_roundHexadecimal 32 = .ok (.iload_n 3, 1) := by decide +kernel
theorem d_Wr_roundHexadecimal_33 : decode c_Wr_roundHexadecimal 33 = .ok (.lushr, 1) := by decide +kernel
theorem d_Wr_roundHexadecimal_34 : decode c_Wr_roundHexadecimal 34 = .ok (.lstore 8, 2) := by decide +kernel
theorem d_Wr_roundHexadecimal_36 : decode c_Wr_roundHexadecimal 36 = .ok (.lload 6, 2) := by decide +kernel
theorem d_Wr_roundHexadecimal_38 : decode c_Wr_roundHexadecimal 38 = .ok (.lload 4, 2) := by decide +kernel
theorem d_Wr_roundHexadecimal_40 : decode c_Wr_roundHexadecimal 40 = .ok (.lcmp, 1) := by decide +kernel
theorem d_Wr_roundHexadecimal_41 : decode c_Wr_roundHexadecimal 41 = .ok (.ifCond .gt 20, 3) := by decide +kernel
theorem d_Wr_roundHexadecimal_44 : decode c_Wr_roundHexadecimal 44 = .ok (.lload 6, 2) := by decide +kernel
theorem d_Wr_roundHexadecimal_46 : decode c_Wr_roundHexadecimal 46 = .ok (.lload 4, 2) := by decide +kernel
theorem d_Wr_roundHexadecimal_48 : decode c_Wr_roundHexadecimal 48 = .ok (.lcmp, 1) := by decide +kernel
theorem d_Wr_roundHexadecimal_49 : decode c_Wr_roundHexadecimal 49 = .ok (.ifCond .ne 18, 3) := by decide +kernel
theorem d_Wr_roundHexadecimal_52 : decode c_Wr_roundHexadecimal 52 = .ok (.lload 8, 2) := by decide +kernel
theorem d_Wr_roundHexadecimal_54 : decode c_Wr_roundHexadecimal 54 = .ok (.lconst 1, 1) := by decide +kernel
theorem d_Wr_roundHexadecimal_55 : decode c_Wr_roundHexadecimal 55 = .ok (.land, 1) := by decide +kernel
theorem d_Wr_roundHexadecimal_56 : decode c_Wr_roundHexadecimal 56 = .ok (.lconst 1, 1) := by decide +kernel
theorem d_Wr_roundHexadecimal_57 : decode c_Wr_roundHexadecimal 57 = .ok (.lcmp, 1) := by decide +kernel
theorem d_Wr_roundHexadecimal_58 : decode c_Wr_roundHexadecimal 58 = .ok (.ifCond .ne 9, 3) := by decide +kernel
theorem d_Wr_roundHexadecimal_61 : decode c_Wr_roundHexadecimal 61 = .ok (.lload 8, 2) := by decide +kernel
theorem d_Wr_roundHexadecimal_63 : decode c_Wr_roundHexadecimal 63 = .ok (.lconst 1, 1) := by decide +kernel
theorem d_Wr_roundHexadecimal_64 : decode c_Wr_roundHexadecimal 64 = .ok (.ladd, 1) := by decide +kernel
theorem d_Wr_roundHexadecimal_65 : decode c_Wr_roundHexadecimal 65 = .ok (.lstore 8, 2) := by decide +kernel
theorem d_Wr_roundHexadecimal_67 : decode c_Wr_roundHexadecimal 67 = .ok (.lload 8, 2) := by decide +kernel
theorem d_Wr_roundHexadecimal_69 : decode c_Wr_roundHexadecimal 69 = .ok (.iload_n 3, 1) := by decide +kernel
theorem d_Wr_roundHexadecimal_70 : decode c_Wr_roundHexadecimal 70 = .ok (.lshl, 1) := by decide +kernel
theorem d_Wr_roundHexadecimal_71 : decode c_Wr_roundHexadecimal 71 = .ok (.lreturn, 1) := by decide +kernel
end
section
/-! decode rows: Fd -/
theorem d_Fd_init_0 : decode c_Fd_init 0 = .ok (.aload_n 0, 1) := by decide +kernel
theorem d_Fd_init_1 : decode c_Fd_init 1 = .ok (.invokespecial 1, 3) := by decide +kernel
theorem d_Fd_init_4 : decode c_Fd_init 4 = .ok (.aload_n 0, 1) := by decide +kernel
theorem d_Fd_init_5 : decode c_Fd_init 5 = .ok (.new 7, 3) := by decide +kernel
theorem d_Fd_init_8 : decode c_Fd_init 8 = .ok (.dup, 1) := by decide +kernel
theorem d_Fd_init_9 : decode c_Fd_init 9 = .ok (.invokespecial 9, 3) := by decide +kernel
theorem d_Fd_init_12 : decode c_Fd_init 12 = .ok (.putfield 10, 3) := by decide +kernel
theorem d_Fd_init_15 : decode c_Fd_init 15 = .ok (.aload_n 0, 1) := by decide +kernel
theorem d_Fd_init_16 : decode c_Fd_init 16 = .ok (.bipush 60, 2) := by decide +kernel
theorem d_Fd_init_18 : decode c_Fd_init 18 = .ok (.newarray .long, 2) := by decide +kernel
theorem d_Fd_init_20 : decode c_Fd_init 20 = .ok (.putfield 16, 3) := by decide +kernel
theorem d_Fd_init_23 : decode c_Fd_init 23 = .ok (.aload_n 0, 1) := by decide +kernel
theorem d_Fd_init_24 : decode c_Fd_init 24 = .ok (.iconst 0, 1) := by decide +kernel
theorem d_Fd_init_25 : decode c_Fd_init 25 = .ok (.putfield 20, 3) := by decide +kernel
theorem d_Fd_init_28 : decode c_Fd_init 28 = .ok (.aload_n 0, 1) := by decide +kernel
theorem d_Fd_init_29 : decode c_Fd_init 29 = .ok (.sipush 4000, 3) := by decide +kernel
theorem d_Fd_init_32 : decode c_Fd_init 32 = .ok (.newarray .byte, 2) := by decide +kernel
theorem d_Fd_init_34 : decode c_Fd_init 34 = .ok (.putfield 24, 3) := by decide +kernel
theorem d_Fd_init_37 : decode c_Fd_init 37 = .ok (.aload_n 0, 1) := by decide +kernel
theorem d_Fd_init_38 : decode c_Fd_init 38 = .ok (.iconst 0, 1) := by decide +kernel
theorem d_Fd_init_39 : decode c_Fd_init 39 = .ok (.putfield 28, 3) := by decide +kernel
theorem d_Fd_init_42 : decode c_Fd_init 42 = .ok (.aload_n 0, 1) := by decide +kernel
theorem d_Fd_init_43 : decode c_Fd_init 43 = .ok (.iconst (-1), 1) := by decide +kernel
theorem d_Fd_init_44 : decode c_Fd_init 44 = .ok (.putfield 31, 3) := by decide +kernel
theorem d_Fd_init_47 : decode c_Fd_init 47 = .ok (.aload_n 0, 1) := by decide +kernel
theorem d_Fd_init_48 : decode c_Fd_init 48 = .ok (.iconst 0, 1) := by decide +kernel
theorem d_Fd_init_49 : decode c_Fd_init 49 = .ok (.putfield 34, 3) := by decide +kernel
theorem d_Fd_init_52 : decode c_Fd_init 52 = .ok (.aload_n 0, 1) := by decide +kernel
theorem d_Fd_init_53 : decode c_Fd_init 53 = .ok (.iconst 0, 1) := by decide +kernel
theorem d_Fd_init_54 : decode c_Fd_init 54 = .ok (.putfield 37, 3) := by decide +kernel
theorem d_Fd_init_57 : decode c_Fd_init 57 = .ok (.aload_n 0, 1) := by decide +kernel
theorem d_Fd_init_58 : decode c_Fd_init 58 = .ok (.new 40, 3) := by decide +kernel
theorem d_Fd_init_61 : decode c_Fd_init 61 = .ok (.dup, 1) := by decide +kernel
theorem d_Fd_init_62 : decode c_Fd_init 62 = .ok (.invokespecial 42, 3) := by decide +kernel
theorem d_Fd_init_65 : decode c_Fd_init 65 = .ok (.putfield 43, 3) := by decide +kernel
theorem d_Fd_init_68 : decode c_Fd_init 68 = .ok (.aload_n 0, 1) := by decide +kernel
theorem d_Fd_init_69 : decode c_Fd_init 69 = .ok (.new 47, 3) := by decide +kernel
theorem d_Fd_init_72 : decode c_Fd_init 72 = .ok (.dup, 1) := by decide +kernel
theorem d_Fd_init_73 : decode c_Fd_init 73 = .ok (.invokespecial 49, 3) := by decide +kernel
theorem d_Fd_init_76 : decode c_Fd_init 76 = .ok (.putfield 50, 3) := by decide +kernel
theorem d_Fd_init_79 : decode c_Fd_init 79 = .ok (.return_, 1) := by decide +kernel
theorem d_Fd_text_0 : decode c_Fd_text 0 = .ok (.lload_n 1, 1) := by decide +kernel
theorem d_Fd_text_1 : decode c_Fd_text 1 = .ok (.invokestatic 54, 3) := by decide +kernel
theorem d_Fd_text_4 : decode c_Fd_text 4 = .ok (.istore_n 3, 1) := by decide +kernel
theorem d_Fd_text_5 : decode c_Fd_text 5 = .ok (.aload_n 0, 1) := by decide +kernel
theorem d_Fd_text_6 : decode c_Fd_text 6 = .ok (.getfield 10, 3) := by decide +kernel
theorem d_Fd_text_9 : decode c_Fd_text 9 = .ok (.getfield 58, 3) := by decide +kernel
theorem d_Fd_text_12 : decode c_Fd_text 12 = .ok (.iload_n 3, 1) := by decide +kernel
theorem d_Fd_text_13 : decode c_Fd_text 13 = .ok (.iadd, 1) := by decide +kernel
theorem d_Fd_text_14 : decode c_Fd_text 14 = .ok (.sipush 400, 3) := by decide +kernel
theorem d_Fd_text_17 : decode c_Fd_text 17 = .ok (.if_icmp .le 11, 3) := by decide +kernel
theorem d_Fd_text_20 : decode c_Fd_text 20 = .ok (.new 61, 3) := by decide +kernel
theorem d_Fd_text_23 : decode c_Fd_text 23 = .ok (.dup, 1) := by decide +kernel
theorem d_Fd_text_24 : decode c_Fd_text 24 = .ok (.invokespecial 63, 3) := by decide +kernel
theorem d_Fd_text_27 : decode c_Fd_text 27 = .ok (.athrow, 1) := by decide +kernel
theorem d_Fd_text_28 : decode c_Fd_text 28 = .ok (.aload_n 0, 1) := by decide +kernel
theorem d_Fd_text_29 : decode c_Fd_text 29 = .ok (.getfield 10, 3) := by decide +kernel
theorem d_Fd_text_32 : decode c_Fd_text 32 = .ok (.lload_n 1, 1) := by decide +kernel
theorem d_Fd_text_33 : decode c_Fd_text 33 = .ok (.iload_n 3, 1) := by decide +kernel
theorem d_Fd_text_34 : decode c_Fd_text 34 = .ok (.invokevirtual 64, 3) := by decide +kernel
theorem d_Fd_text_37 : decode c_Fd_text 37 = .ok (.aload_n 0, 1) := by decide +kernel
theorem d_Fd_text_38 : decode c_Fd_text 38 = .ok (.getfield 10, 3) := by decide +kernel
theorem d_Fd_text_41 : decode c_Fd_text 41 = .ok (.getfield 58, 3) := by decide +kernel
theorem d_Fd_text_44 : decode c_Fd_text 44 = .ok (.ireturn, 1) := by decide +kernel
theorem d_Fd_argument_0 : decode c_Fd_argument 0 = .ok (.aload_n 0, 1) := by decide +kernel
theorem d_Fd_argument_1 : decode c_Fd_argument 1 = .ok (.getfield 20, 3) := by decide +kernel
theorem d_Fd_argument_4 : decode c_Fd_argument 4 = .ok (.bipush 60, 2) := by decide +kernel
theorem d_Fd_argument_6 : decode c_Fd_argument 6 = .ok (.if_icmp .lt 11, 3) := by decide +kernel
theorem d_Fd_argument_9 : decode c_Fd_argument 9 = .ok (.new 61, 3) := by decide +kernel
theorem d_Fd_argument_12 : decode c_Fd_argument 12 = .ok (.dup, 1) := by decide +kernel
theorem d_Fd_argument_13 : decode c_Fd_argument 13 = .ok (.invokespecial 63, 3) := by decide +kernel
theorem d_Fd_argument_16 : decode c_Fd_argument 16 = .ok (.athrow, 1) := by decide +kernel
theorem d_Fd_argument_17 : decode c_Fd_argument 17 = .ok (.aload_n 0, 1) := by decide +kernel
theorem d_Fd_argument_18 : decode c_Fd_argument 18 = .ok (.getfield 16, 3) := by decide +kernel
theorem d_Fd_argument_21 : decode c_Fd_argument 21 = .ok (.aload_n 0, 1) := by decide +kernel
theorem d_Fd_argument_22 : decode c_Fd_argument 22 = .ok (.getfield 20, 3) := by decide +kernel
theorem d_Fd_argument_25 : decode c_Fd_argument 25 = .ok (.lload_n 1, 1) := by decide +kernel
theorem d_Fd_argument_26 : decode c_Fd_argument 26 = .ok (.lastore, 1) := by decide +kernel
theorem d_Fd_argument_27 : decode c_Fd_argument 27 = .ok (.aload_n 0, 1) := by decide +kernel
theorem d_Fd_argument_28 : decode c_Fd_argument 28 = .ok (.dup, 1) := by decide +kernel
theorem d_Fd_argument_29 : decode c_Fd_argument 29 = .ok (.getfield 20, 3) := by decide +kernel
theorem d_Fd_argument_32 : decode c_Fd_argument 32 = .ok (.iconst 1, 1) := by decide +kernel
theorem d_Fd_argument_33 : decode c_Fd_argument 33 = .ok (.iadd, 1) := by decide +kernel
theorem d_Fd_argument_34 : decode c_Fd_argument 34 = .ok (.putfield 20, 3) := by decide +kernel
theorem d_Fd_argument_37 : decode c_Fd_argument 37 = .ok (.aload_n 0, 1) := by decide +kernel
theorem d_Fd_argument_38 : decode c_Fd_argument 38 = .ok (.getfield 20, 3) := by decide +kernel
theorem d_Fd_argument_41 : decode c_Fd_argument 41 = .ok (.ireturn, 1) := by decide +kernel
theorem d_Fd_clear_0 : decode c_Fd_clear 0 = .ok (.aload_n 0, 1) := by decide +kernel
theorem d_Fd_clear_1 : decode c_Fd_clear 1 = .ok (.getfield 10, 3) := by decide +kernel
theorem d_Fd_clear_4 : decode c_Fd_clear 4 = .ok (.iconst 0, 1) := by decide +kernel
theorem d_Fd_clear_5 : decode c_Fd_clear 5 = .ok (.putfield 58, 3) := by decide +kernel
theorem d_Fd_clear_8 : decode c_Fd_clear 8 = .ok (.aload_n 0, 1) := by decide +kernel
theorem d_Fd_clear_9 : decode c_Fd_clear 9 = .ok (.iconst 0, 1) := by decide +kernel
theorem d_Fd_clear_10 : decode c_Fd_clear 10 = .ok (.putfield 20, 3) := by decide +kernel
theorem d_Fd_clear_13 : decode c_Fd_clear 13 = .ok (.return_, 1) := by decide +kernel
theorem d_Fd_run_0 : decode c_Fd_run 0 = .ok (.aload_n 0, 1) := by decide +kernel
theorem d_Fd_run_1 : decode c_Fd_run 1 = .ok (.invokevirtual 68, 3) := by decide +kernel
theorem d_Fd_run_4 : decode c_Fd_run 4 = .ok (.aload_n 0, 1) := by decide +kernel
theorem d_Fd_run_5 : decode c_Fd_run 5 = .ok (.aload_n 0, 1) := by decide +kernel
theorem d_Fd_run_6 : decode c_Fd_run 6 = .ok (.invokevirtual 71, 3) := by decide +kernel
theorem d_Fd_run_9 : decode c_Fd_run 9 = .ok (.putfield 31, 3) := by decide +kernel
theorem d_Fd_run_12 : decode c_Fd_run 12 = .ok (.aload_n 0, 1) := by decide +kernel
theorem d_Fd_run_13 : decode c_Fd_run 13 = .ok (.getfield 31, 3) := by decide +kernel
theorem d_Fd_run_16 : decode c_Fd_run 16 = .ok (.iconst (-1), 1) := by decide +kernel
theorem d_Fd_run_17 : decode c_Fd_run 17 = .ok (.if_icmp .eq 11, 3) := by decide +kernel
theorem d_Fd_run_20 : decode c_Fd_run 20 = .ok (.new 75, 3) := by decide +kernel
theorem d_Fd_run_23 : decode c_Fd_run 23 = .ok (.dup, 1) := by decide +kernel
theorem d_Fd_run_24 : decode c_Fd_run 24 = .ok (.invokespecial 77, 3) := by decide +kernel
theorem d_Fd_run_27 : decode c_Fd_run 27 = .ok (.athrow, 1) := by decide +kernel
theorem d_Fd_run_28 : decode c_Fd_run 28 = .ok (.aload_n 0, 1) := by decide +kernel
theorem d_Fd_run_29 : decode c_Fd_run 29 = .ok (.invokevirtual 78, 3) := by decide +kernel
theorem d_Fd_run_32 : decode c_Fd_run 32 = .ok (.ifCond .ne 15, 3) := by decide +kernel
theorem d_Fd_run_35 : decode c_Fd_run 35 = .ok (.aload_n 0, 1) := by decide +kernel
theorem d_Fd_run_36 : decode c_Fd_run 36 = .ok (.invokevirtual 68, 3) := by decide +kernel
theorem d_Fd_run_39 : decode c_Fd_run 39 = .ok (.new 82, 3) := by decide +kernel
theorem d_Fd_run_42 : decode c_Fd_run 42 = .ok (.dup, 1) := by decide +kernel
theorem d_Fd_run_43 : decode c_Fd_run 43 = .ok (.invokespecial 84, 3) := by decide +kernel
theorem d_Fd_run_46 : decode c_Fd_run 46 = .ok (.athrow, 1) := by decide +kernel
theorem d_Fd_run_47 : decode c_Fd_run 47 = .ok (.aload_n 0, 1) := by decide +kernel
theorem d_Fd_run_48 : decode c_Fd_run 48 = .ok (.getfield 28, 3) := by decide +kernel
theorem d_Fd_run_51 : decode c_Fd_run 51 = .ok (.ireturn, 1) := by decide +kernel
theorem d_Fd_wrong_0 : decode c_Fd_wrong 0 = .ok (.aload_n 0, 1) := by decide +kernel
theorem d_Fd_wrong_1 : decode c_Fd_wrong 1 = .ok (.getfield 31, 3) := by decide +kernel
theorem d_Fd_wrong_4 : decode c_Fd_wrong 4 = .ok (.ireturn, 1) := by decide +kernel
theorem d_Fd_letters_0 : decode c_Fd_letters 0 = .ok (.iload_n 1, 1) := by decide +kernel
theorem d_Fd_letters_1 : decode c_Fd_letters 1 = .ok (.ifCond .lt 17, 3) := by decide +kernel
theorem d_Fd_letters_4 : decode c_Fd_letters 4 = .ok (.iload_n 1, 1) := by decide +kernel
theorem d_Fd_letters_5 : decode c_Fd_letters 5 = .ok (.aload_n 0, 1) := by decide +kernel
theorem d_Fd_letters_6 : decode c_Fd_letters 6 = .ok (.getfield 28, 3) := by decide +kernel
theorem d_Fd_letters_9 : decode c_Fd_letters 9 = .ok (.bipush 7, 2) := by decide +kernel
theorem d_Fd_letters_11 : decode c_Fd_letters 11 = .ok (.iadd, 1) := by decide +kernel
theorem d_Fd_letters_12 : decode c_Fd_letters 12 = .ok (.bipush 8, 2) := by decide +kernel
theorem d_Fd_letters_14 : decode c_Fd_letters 14 = .ok (.idiv, 1) := by decide +kernel
theorem d_Fd_letters_15 : decode c_Fd_letters 15 = .ok (.if_icmp .lt 11, 3) := by decide +kernel
theorem d_Fd_letters_18 : decode c_Fd_letters 18 = .ok (.new 61, 3) := by decide +kernel
theorem d_Fd_letters_21 : decode c_Fd_letters 21 = .ok (.dup, 1) := by decide +kernel
theorem d_Fd_letters_22 : decode c_Fd_letters 22 = .ok (.invokespecial 63, 3) := by decide +kernel
theorem d_Fd_letters_25 : decode c_Fd_letters 25 = .ok (.athrow, 1) := by decide +kernel
theorem d_Fd_letters_26 : decode c_Fd_letters 26 = .ok (.lconst 0, 1) := by decide +kernel
theorem d_Fd_letters_27 : decode c_Fd_letters 27 = .ok (.lstore_n 2, 1) := by decide +kernel
theorem d_Fd_letters_28 : decode c_Fd_letters 28 = .ok (.bipush 8, 2) := by decide +kernel
theorem d_Fd_letters_30 : decode c_Fd_letters 30 = .ok (.iload_n 1, 1) := by decide +kernel
theorem d_Fd_letters_31 : decode c_Fd_letters 31 = .ok (.imul, 1) := by decide +kernel
theorem d_Fd_letters_32 : decode c_Fd_letters 32 = .ok (.istore 4, 2) := by decide +kernel
theorem d_Fd_letters_34 : decode c_Fd_letters 34 = .ok (.iload 4, 2) := by decide +kernel
theorem d_Fd_letters_36 : decode c_Fd_letters 36 = .ok (.bipush 8, 2) := by decide +kernel
theorem d_Fd_letters_38 : decode c_Fd_letters 38 = .ok (.iload_n 1, 1) := by decide +kernel
theorem d_Fd_letters_39 : decode c_Fd_letters 39 = .ok (.imul, 1) := by decide +kernel
theorem d_Fd_letters_40 : decode c_Fd_letters 40 = .ok (.bipush 8, 2) := by decide +kernel
theorem d_Fd_letters_42 : decode c_Fd_letters 42 = .ok (.iadd, 1) := by decide +kernel
theorem d_Fd_letters_43 : decode c_Fd_letters 43 = .ok (.if_icmp .ge 36, 3) := by decide +kernel
theorem d_Fd_letters_46 : decode c_Fd_letters 46 = .ok (.lload_n 2, 1) := by decide +kernel
theorem d_Fd_letters_47 : decode c_Fd_letters 47 = .ok (.bipush 8, 2) := by decide +kernel
theorem d_Fd_letters_49 : decode c_Fd_letters 49 = .ok (.lshl, 1) := by decide +kernel
theorem d_Fd_letters_50 : decode c_Fd_letters 50 = .ok (.iload 4, 2) := by decide +kernel
theorem d_Fd_letters_52 : decode c_Fd_letters 52 = .ok (.aload_n 0, 1) := by decide +kernel
theorem d_Fd_letters_53 : decode c_Fd_letters 53 = .ok (.getfield 28, 3) := by decide +kernel
theorem d_Fd_letters_56 : decode c_Fd_letters 56 = .ok (.if_icmp .ge 13, 3) := by decide +kernel
theorem d_Fd_letters_59 : decode c_Fd_letters 59 = .ok (.aload_n 0, 1) := by decide +kernel
theorem d_Fd_letters_60 : decode c_Fd_letters 60 = .ok (.getfield 24, 3) := by decide +kernel
theorem d_Fd_letters_63 : decode c_Fd_letters 63 = .ok (.iload 4, 2) := by decide +kernel
theorem d_Fd_letters_65 : decode c_Fd_letters 65 = .ok (.baload, 1) := by decide +kernel
theorem d_Fd_letters_66 : decode c_Fd_letters 66 = .ok (.goto 4, 3) := by decide +kernel
theorem d_Fd_letters_69 : decode c_Fd_letters 69 = .ok (.iconst 0, 1) := by decide +kernel
theorem d_Fd_letters_70 : decode c_Fd_letters 70 = .ok (.i2l, 1) := by decide +kernel
theorem d_Fd_letters_71 : decode c_Fd_letters 71 = .ok (.lor, 1) := by decide +kernel
theorem d_Fd_letters_72 : decode c_Fd_letters 72 = .ok (.lstore_n 2, 1) := by decide +kernel
theorem d_Fd_letters_73 : decode c_Fd_letters 73 = .ok (.iinc 4 1, 3) := by decide +kernel
theorem d_Fd_letters_76 : decode c_Fd_letters 76 = .ok (.goto (-42), 3) := by decide +kernel
theorem d_Fd_letters_79 : decode c_Fd_letters 79 = .ok (.lload_n 2, 1) := by decide +kernel
theorem d_Fd_letters_80 : decode c_Fd_letters 80 = .ok (.lreturn, 1) := by decide +kernel
theorem d_Fd_count_0 : decode c_Fd_count 0 = .ok (.iload_n 1, 1) := by decide +kernel
theorem d_Fd_count_1 : decode c_Fd_count 1 = .ok (.tableswitch 63 0 4 #[35, 43, 48, 53, 58], 35) := by decide +kernel
theorem d_Fd_count_36 : decode c_Fd_count 36 = .ok (.aload_n 0, 1) := by decide +kernel
theorem d_Fd_count_37 : decode c_Fd_count 37 = .ok (.getfield 10, 3) := by decide +kernel
theorem d_Fd_count_40 : decode c_Fd_count 40 = .ok (.getfield 58, 3) := by decide +kernel
theorem d_Fd_count_43 : decode c_Fd_count 43 = .ok (.ireturn, 1) := by decide +kernel
theorem d_Fd_count_44 : decode c_Fd_count 44 = .ok (.aload_n 0, 1) := by decide +kernel
theorem d_Fd_count_45 : decode c_Fd_count 45 = .ok (.getfield 20, 3) := by decide +kernel
theorem d_Fd_count_48 : decode c_Fd_count 48 = .ok (.ireturn, 1) := by decide +kernel
theorem d_Fd_count_49 : decode c_Fd_count 49 = .ok (.aload_n 0, 1) := by decide +kernel
theorem d_Fd_count_50 : decode c_Fd_count 50 = .ok (.getfield 34, 3) := by decide +kernel
theorem d_Fd_count_53 : decode c_Fd_count 53 = .ok (.ireturn, 1) := by decide +kernel
theorem d_Fd_count_54 : decode c_Fd_count 54 = .ok (.aload_n 0, 1) := by decide +kernel
theorem d_Fd_count_55 : decode c_Fd_count 55 = .ok (.getfield 37, 3) := by decide +kernel
theorem d_Fd_count_58 : decode c_Fd_count 58 = .ok (.ireturn, 1) := by decide +kernel
theorem d_Fd_count_59 : decode c_Fd_count 59 = .ok (.aload_n 0, 1) := by decide +kernel
theorem d_Fd_count_60 : decode c_Fd_count 60 = .ok (.getfield 28, 3) := by decide +kernel
theorem d_Fd_count_63 : decode c_Fd_count 63 = .ok (.ireturn, 1) := by decide +kernel
theorem d_Fd_count_64 : decode c_Fd_count 64 = .ok (.new 75, 3) := by decide +kernel
theorem d_Fd_count_67 : decode c_Fd_count 67 = .ok (.dup, 1) := by decide +kernel
theorem d_Fd_count_68 : decode c_Fd_count 68 = .ok (.invokespecial 77, 3) := by decide +kernel
theorem d_Fd_count_71 : decode c_Fd_count 71 = .ok (.athrow, 1) := by decide +kernel
theorem d_Fd_forgetLatestRun_0 : decode c_Fd_forgetLatestRun 0 = .ok (.aload_n 0, 1) := by decide +kernel
theorem d_Fd_forgetLatestRun_1 : decode c_Fd_forgetLatestRun 1 = .ok (.iconst 0, 1) := by decide +kernel
theorem d_Fd_forgetLatestRun_2 : decode c_Fd_forgetLatestRun 2 = .ok (.putfield 28, 3) := by decide +kernel
theorem d_Fd_forgetLatestRun_5 : decode c_Fd_forgetLatestRun 5 = .ok (.aload_n 0, 1) := by decide +kernel
theorem d_Fd_forgetLatestRun_6 : decode c_Fd_forgetLatestRun 6 = .ok (.iconst (-1), 1) := by decide +kernel
theorem d_Fd_forgetLatestRun_7 : decode c_Fd_forgetLatestRun 7 = .ok (.putfield 31, 3) := by decide +kernel
theorem d_Fd_forgetLatestRun_10 : decode c_Fd_forgetLatestRun 10 = .ok (.aload_n 0, 1) := by decide +kernel
theorem d_Fd_forgetLatestRun_11 : decode c_Fd_forgetLatestRun 11 = .ok (.iconst 0, 1) := by decide +kernel
theorem d_Fd_forgetLatestRun_12 : decode c_Fd_forgetLatestRun 12 = .ok (.putfield 34, 3) := by decide +kernel
theorem d_Fd_forgetLatestRun_15 : decode c_Fd_forgetLatestRun 15 = .ok (.aload_n 0, 1) := by decide +kernel
theorem d_Fd_forgetLatestRun_16 : decode c_Fd_forgetLatestRun 16 = .ok (.iconst 0, 1) := by decide +kernel
theorem d_Fd_forgetLatestRun_17 : decode c_Fd_forgetLatestRun 17 = .ok (.putfield 37, 3) := by decide +kernel
theorem d_Fd_forgetLatestRun_20 : decode c_Fd_forgetLatestRun 20 = .ok (.return_, 1) := by decide +kernel
theorem d_Fd_placeOfWrong_0 : decode c_Fd_placeOfWrong 0 = .ok (.aload_n 0, 1) := by decide +kernel
theorem d_Fd_placeOfWrong_1 : decode c_Fd_placeOfWrong 1 = .ok (.getfield 10, 3) := by decide +kernel
theorem d_Fd_placeOfWrong_4 : decode c_Fd_placeOfWrong 4 = .ok (.invokevirtual 85, 3) := by decide +kernel
theorem d_Fd_placeOfWrong_7 : decode c_Fd_placeOfWrong 7 = .ok (.istore_n 1, 1) := by decide +kernel
theorem d_Fd_placeOfWrong_8 : decode c_Fd_placeOfWrong 8 = .ok (.iload_n 1, 1) := by decide +kernel
theorem d_Fd_placeOfWrong_9 : decode c_Fd_placeOfWrong 9 = .ok (.iconst (-1), 1) := by decide +kernel
theorem d_Fd_placeOfWrong_10 : decode c_Fd_placeOfWrong 10 = .ok (.if_icmp .eq 5, 3) := by decide +kernel
theorem d_Fd_placeOfWrong_13 : decode c_Fd_placeOfWrong 13 = .ok (.iload_n 1, 1) := by decide +kernel
theorem d_Fd_placeOfWrong_14 : decode c_Fd_placeOfWrong 14 = .ok (.ireturn, 1) := by decide +kernel
theorem d_Fd_placeOfWrong_15 : decode c_Fd_placeOfWrong 15 = .ok (.iconst 0, 1) := by decide +kernel
theorem d_Fd_placeOfWrong_16 : decode c_Fd_placeOfWrong 16 = .ok (.istore_n 2, 1) := by decide +kernel
theorem d_Fd_placeOfWrong_17 : decode c_Fd_placeOfWrong 17 = .ok (.iload_n 2, 1) := by decide +kernel
theorem d_Fd_placeOfWrong_18 : decode c_Fd_placeOfWrong 18 = .ok (.aload_n 0, 1) := by decide +kernel
theorem d_Fd_placeOfWrong_19 : decode c_Fd_placeOfWrong 19 = .ok (.getfield 10, 3) := by decide +kernel
theorem d_Fd_placeOfWrong_22 : decode c_Fd_placeOfWrong 22 = .ok (.getfield 58, 3) := by decide +kernel
theorem d_Fd_placeOfWrong_25 : decode c_Fd_placeOfWrong 25 = .ok (.if_icmp .ge 57, 3) := by decide +kernel
theorem d_Fd_placeOfWrong_28 : decode c_Fd_placeOfWrong 28 = .ok (.aload_n 0, 1) := by decide +kernel
theorem d_Fd_placeOfWrong_29 : decode c_Fd_placeOfWrong 29 = .ok (.getfield 10, 3) := by decide +kernel
theorem d_Fd_placeOfWrong_32 : decode c_Fd_placeOfWrong 32 = .ok (.iload_n 2, 1) := by decide +kernel
theorem d_Fd_placeOfWrong_33 : decode c_Fd_placeOfWrong 33 = .ok (.invokevirtual 88, 3) := by decide +kernel
theorem d_Fd_placeOfWrong_36 : decode c_Fd_placeOfWrong 36 = .ok (.bipush 37, 2) := by decide +kernel
theorem d_Fd_placeOfWrong_38 : decode c_Fd_placeOfWrong 38 = .ok (.if_icmp .ne 38, 3) := by decide +kernel
theorem d_Fd_placeOfWrong_41 : decode c_Fd_placeOfWrong 41 = .ok (.aload_n 0, 1) := by decide +kernel
theorem d_Fd_placeOfWrong_42 : decode c_Fd_placeOfWrong 42 = .ok (.getfield 43, 3) := by decide +kernel
theorem d_Fd_placeOfWrong_45 : decode c_Fd_placeOfWrong 45 = .ok (.aload_n 0, 1) := by decide +kernel
theorem d_Fd_placeOfWrong_46 : decode c_Fd_placeOfWrong 46 = .ok (.getfield 10, 3) := by decide +kernel
theorem d_Fd_placeOfWrong_49 : decode c_Fd_placeOfWrong 49 = .ok (.iload_n 2, 1) := by decide +kernel
theorem d_Fd_placeOfWrong_50 : decode c_Fd_placeOfWrong 50 = .ok (.invokevirtual 92, 3) := by decide +kernel
theorem d_Fd_placeOfWrong_53 : decode c_Fd_placeOfWrong 53 = .ok (.ifCond .ne 11, 3) := by decide +kernel
theorem d_Fd_placeOfWrong_56 : decode c_Fd_placeOfWrong 56 = .ok (.aload_n 0, 1) := by decide +kernel
theorem d_Fd_placeOfWrong_57 : decode c_Fd_placeOfWrong 57 = .ok (.getfield 43, 3) := by decide +kernel
theorem d_Fd_placeOfWrong_60 : decode c_Fd_placeOfWrong 60 = .ok (.getfield 96, 3) := by decide +kernel
theorem d_Fd_placeOfWrong_63 : decode c_Fd_placeOfWrong 63 = .ok (.ireturn, 1) := by decide +kernel
theorem d_Fd_placeOfWrong_64 : decode c_Fd_placeOfWrong 64 = .ok (.iload_n 2, 1) := by decide +kernel
theorem d_Fd_placeOfWrong_65 : decode c_Fd_placeOfWrong 65 = .ok (.aload_n 0, 1) := by decide +kernel
theorem d_Fd_placeOfWrong_66 : decode c_Fd_placeOfWrong 66 = .ok (.getfield 43, 3) := by decide +kernel
theorem d_Fd_placeOfWrong_69 : decode c_Fd_placeOfWrong 69 = .ok (.getfield 96, 3) := by decide +kernel
theorem d_Fd_placeOfWrong_72 : decode c_Fd_placeOfWrong 72 = .ok (.invokestatic 99, 3) := by decide +kernel
theorem d_Fd_placeOfWrong_75 : decode c_Fd_placeOfWrong 75 = .ok (.istore_n 2, 1) := by decide +kernel
theorem d_Fd_placeOfWrong_76 : decode c_Fd_placeOfWrong 76 = .ok (.iinc 2 1, 3) := by decide +kernel
theorem d_Fd_placeOfWrong_79 : decode c_Fd_placeOfWrong 79 = .ok (.goto (-62), 3) := by decide +kernel
theorem d_Fd_placeOfWrong_82 : decode c_Fd_placeOfWrong 82 = .ok (.iconst (-1), 1) := by decide +kernel
theorem d_Fd_placeOfWrong_83 : decode c_Fd_placeOfWrong 83 = .ok (.ireturn, 1) := by decide +kernel
theorem d_Fd_putOutAll_0 : decode c_Fd_putOutAll 0 = .ok (.iconst 0, 1) := by decide +kernel
theorem d_Fd_putOutAll_1 : decode c_Fd_putOutAll 1 = .ok (.istore_n 1, 1) := by decide +kernel
theorem d_Fd_putOutAll_2 : decode c_Fd_putOutAll 2 = .ok (.iload_n 1, 1) := by decide +kernel
theorem d_Fd_putOutAll_3 : decode c_Fd_putOutAll 3 = .ok (.aload_n 0, 1) := by decide +kernel
theorem d_Fd_putOutAll_4 : decode c_Fd_putOutAll 4 = .ok (.getfield 10, 3) := by decide +kernel
theorem d_Fd_putOutAll_7 : decode c_Fd_putOutAll 7 = .ok (.getfield 58, 3) := by decide +kernel
theorem d_Fd_putOutAll_10 : decode c_Fd_putOutAll 10 = .ok (.if_icmp .ge 126, 3) := by decide +kernel
theorem d_Fd_putOutAll_13 : decode c_Fd_putOutAll 13 = .ok (.aload_n 0, 1) := by decide +kernel
theorem d_Fd_putOutAll_14 : decode c_Fd_putOutAll 14 = .ok (.getfield 10, 3) := by decide +kernel
theorem d_Fd_putOutAll_17 : decode c_Fd_putOutAll 17 = .ok (.iload_n 1, 1) := by decide +kernel
theorem d_Fd_putOutAll_18 : decode c_Fd_putOutAll 18 = .ok (.invokevirtual 88, 3) := by decide +kernel
theorem d_Fd_putOutAll_21 : decode c_Fd_putOutAll 21 = .ok (.bipush 37, 2) := by decide +kernel
theorem d_Fd_putOutAll_23 : decode c_Fd_putOutAll 23 = .ok (.if_icmp .ne 88, 3) := by decide +kernel
theorem d_Fd_putOutAll_26 : decode c_Fd_putOutAll 26 = .ok (.aload_n 0, 1) := by decide +kernel
theorem d_Fd_putOutAll_27 : decode c_Fd_putOutAll 27 = .ok (.getfield 43, 3) := by decide +kernel
theorem d_Fd_putOutAll_30 : decode c_Fd_putOutAll 30 = .ok (.aload_n 0, 1) := by decide +kernel
theorem d_Fd_putOutAll_31 : decode c_Fd_putOutAll 31 = .ok (.getfield 10, 3) := by decide +kernel
theorem d_Fd_putOutAll_34 : decode c_Fd_putOutAll 34 = .ok (.iload_n 1, 1) := by decide +kernel
theorem d_Fd_putOutAll_35 : decode c_Fd_putOutAll 35 = .ok (.invokevirtual 92, 3) := by decide +kernel
theorem d_Fd_putOutAll_38 : decode c_Fd_putOutAll 38 = .ok (.pop, 1) := by decide +kernel
theorem d_Fd_putOutAll_39 : decode c_Fd_putOutAll 39 = .ok (.iload_n 1, 1) := by decide +kernel
theorem d_Fd_putOutAll_40 : decode c_Fd_putOutAll 40 = .ok (.aload_n 0, 1) := by decide +kernel
theorem d_Fd_putOutAll_41 : decode c_Fd_putOutAll 41 = .ok (.getfield 43, 3) := by decide +kernel
theorem d_Fd_putOutAll_44 : decode c_Fd_putOutAll 44 = .ok (.getfield 96, 3) := by decide +kernel
theorem d_Fd_putOutAll_47 : decode c_Fd_putOutAll 47 = .ok (.invokestatic 99, 3) := by decide +kernel
theorem d_Fd_putOutAll_50 : decode c_Fd_putOutAll 50 = .ok (.istore_n 1, 1) := by decide +kernel
theorem d_Fd_putOutAll_51 : decode c_Fd_putOutAll 51 = .ok (.aload_n 0, 1) := by decide +kernel
theorem d_Fd_putOutAll_52 : decode c_Fd_putOutAll 52 = .ok (.invokevirtual 105, 3) := by decide +kernel
theorem d_Fd_putOutAll_55 : decode c_Fd_putOutAll 55 = .ok (.aload_n 0, 1) := by decide +kernel
theorem d_Fd_putOutAll_56 : decode c_Fd_putOutAll 56 = .ok (.getfield 50, 3) := by decide +kernel
theorem d_Fd_putOutAll_59 : decode c_Fd_putOutAll 59 = .ok (.aload_n 0, 1) := by decide +kernel
theorem d_Fd_putOutAll_60 : decode c_Fd_putOutAll 60 = .ok (.getfield 43, 3) := by decide +kernel
theorem d_Fd_putOutAll_63 : decode c_Fd_putOutAll 63 = .ok (.getfield 108, 3) := by decide +kernel
theorem d_Fd_putOutAll_66 : decode c_Fd_putOutAll 66 = .ok (.bipush 37, 2) := by decide +kernel
theorem d_Fd_putOutAll_68 : decode c_Fd_putOutAll 68 = .ok (.if_icmp .ne 7, 3) := by decide +kernel
theorem d_Fd_putOutAll_71 : decode c_Fd_putOutAll 71 = .ok (.lconst 0, 1) := by decide +kernel
theorem d_Fd_putOutAll_72 : decode c_Fd_putOutAll 72 = .ok (.goto 7, 3) := by decide +kernel
theorem d_Fd_putOutAll_75 : decode c_Fd_putOutAll 75 = .ok (.aload_n 0, 1) := by decide +kernel
theorem d_Fd_putOutAll_76 : decode c_Fd_putOutAll 76 = .ok (.invokevirtual 111, 3) := by decide +kernel
theorem d_Fd_putOutAll_79 : decode c_Fd_putOutAll 79 = .ok (.aload_n 0, 1) := by decide +kernel
theorem d_Fd_putOutAll_80 : decode c_Fd_putOutAll 80 = .ok (.getfield 43, 3) := by decide +kernel
theorem d_Fd_putOutAll_83 : decode c_Fd_putOutAll 83 = .ok (.invokevirtual 115, 3) := by decide +kernel
theorem d_Fd_putOutAll_86 : decode c_Fd_putOutAll 86 = .ok (.aload_n 0, 1) := by decide +kernel
theorem d_Fd_putOutAll_87 : decode c_Fd_putOutAll 87 = .ok (.aload_n 0, 1) := by decide +kernel
theorem d_Fd_putOutAll_88 : decode c_Fd_putOutAll 88 = .ok (.getfield 50, 3) := by decide +kernel
theorem d_Fd_putOutAll_91 : decode c_Fd_putOutAll 91 = .ok (.getfield 119, 3) := by decide +kernel
theorem d_Fd_putOutAll_94 : decode c_Fd_putOutAll 94 = .ok (.invokevirtual 123, 3) := by decide +kernel
theorem d_Fd_putOutAll_97 : decode c_Fd_putOutAll 97 = .ok (.istore_n 2, 1) := by decide +kernel
theorem d_Fd_putOutAll_98 : decode c_Fd_putOutAll 98 = .ok (.aload_n 0, 1) := by decide +kernel
theorem d_Fd_putOutAll_99 : decode c_Fd_putOutAll 99 = .ok (.dup, 1) := by decide +kernel
theorem d_Fd_putOutAll_100 : decode c_Fd_putOutAll 100 = .ok (.getfield 37, 3) := by decide +kernel
theorem d_Fd_putOutAll_103 : decode c_Fd_putOutAll 103 = .ok (.iconst 1, 1) := by decide +kernel
theorem d_Fd_putOutAll_104 : decode c_Fd_putOutAll 104 = .ok (.iadd, 1) := by decide +kernel
theorem d_Fd_putOutAll_105 : decode c_Fd_putOutAll 105 = .ok (.putfield 37, 3) := by decide +kernel
theorem d_Fd_putOutAll_108 : decode c_Fd_putOutAll 108 = .ok (.goto 16, 3) := by decide +kernel
theorem d_Fd_putOutAll_111 : decode c_Fd_putOutAll 111 = .ok (.aload_n 0, 1) := by decide +kernel
theorem d_Fd_putOutAll_112 : decode c_Fd_putOutAll 112 = .ok (.aload_n 0, 1) := by decide +kernel
theorem d_Fd_putOutAll_113 : decode c_Fd_putOutAll 113 = .ok (.getfield 10, 3) := by decide +kernel
theorem d_Fd_putOutAll_116 : decode c_Fd_putOutAll 116 = .ok (.iload_n 1, 1) := by decide +kernel
theorem d_Fd_putOutAll_117 : decode c_Fd_putOutAll 117 = .ok (.invokevirtual 88, 3) := by decide +kernel
theorem d_Fd_putOutAll_120 : decode c_Fd_putOutAll 120 = .ok (.invokevirtual 127, 3) := by decide +kernel
theorem d_Fd_putOutAll_123 : decode c_Fd_putOutAll 123 = .ok (.istore_n 2, 1) := by decide +kernel
theorem d_Fd_putOutAll_124 : decode c_Fd_putOutAll 124 = .ok (.iload_n 2, 1) := by decide +kernel
theorem d_Fd_putOutAll_125 : decode c_Fd_putOutAll 125 = .ok (.ifCond .ne 5, 3) := by decide +kernel
theorem d_Fd_putOutAll_128 : decode c_Fd_putOutAll 128 = .ok (.iconst 0, 1) := by decide +kernel
theorem d_Fd_putOutAll_129 : decode c_Fd_putOutAll 129 = .ok (.ireturn, 1) := by decide +kernel
theorem d_Fd_putOutAll_130 : decode c_Fd_putOutAll 130 = .ok (.iinc 1 1, 3) := by decide +kernel
theorem d_Fd_putOutAll_133 : decode c_Fd_putOutAll 133 = .ok (.goto (-131), 3) := by decide +kernel
theorem d_Fd_putOutAll_136 : decode c_Fd_putOutAll 136 = .ok (.iconst 1, 1) := by decide +kernel
theorem d_Fd_putOutAll_137 : decode c_Fd_putOutAll 137 = .ok (.ireturn, 1) := by decide +kernel
theorem d_Fd_takeStars_0 : decode c_Fd_takeStars 0 = .ok (.aload_n 0, 1) := by decide +kernel
theorem d_Fd_takeStars_1 : decode c_Fd_takeStars 1 = .ok (.getfield 43, 3) := by decide +kernel
theorem d_Fd_takeStars_4 : decode c_Fd_takeStars 4 = .ok (.getfield 131, 3) := by decide +kernel
theorem d_Fd_takeStars_7 : decode c_Fd_takeStars 7 = .ok (.ifCond .eq 14, 3) := by decide +kernel
theorem d_Fd_takeStars_10 : decode c_Fd_takeStars 10 = .ok (.aload_n 0, 1) := by decide +kernel
theorem d_Fd_takeStars_11 : decode c_Fd_takeStars 11 = .ok (.getfield 43, 3) := by decide +kernel
theorem d_Fd_takeStars_14 : decode c_Fd_takeStars 14 = .ok (.aload_n 0, 1) := by decide +kernel
theorem d_Fd_takeStars_15 : decode c_Fd_takeStars 15 = .ok (.invokevirtual 135, 3) := by decide +kernel
theorem d_Fd_takeStars_18 : decode c_Fd_takeStars 18 = .ok (.invokevirtual 138, 3) := by decide +kernel
theorem d_Fd_takeStars_21 : decode c_Fd_takeStars 21 = .ok (.aload_n 0, 1) := by decide +kernel
theorem d_Fd_takeStars_22 : decode c_Fd_takeStars 22 = .ok (.getfield 43, 3) := by decide +kernel
theorem d_Fd_takeStars_25 : decode c_Fd_takeStars 25 = .ok (.getfield 142, 3) := by decide +kernel
theorem d_Fd_takeStars_28 : decode c_Fd_takeStars 28 = .ok (.ifCond .eq 14, 3) := by decide +kernel
theorem d_Fd_takeStars_31 : decode c_Fd_takeStars 31 = .ok (.aload_n 0, 1) := by decide +kernel
theorem d_Fd_takeStars_32 : decode c_Fd_takeStars 32 = .ok (.getfield 43, 3) := by decide +kernel
theorem d_Fd_takeStars_35 : decode c_Fd_takeStars 35 = .ok (.aload_n 0, 1) := by decide +kernel
theorem d_Fd_takeStars_36 : decode c_Fd_takeStars 36 = .ok (.invokevirtual 135, 3) := by decide +kernel
theorem d_Fd_takeStars_39 : decode c_Fd_takeStars 39 = .ok (.invokevirtual 145, 3) := by decide +kernel
theorem d_Fd_takeStars_42 : decode c_Fd_takeStars 42 = .ok (.return_, 1) := by decide +kernel
theorem d_Fd_takeForStar_0 : decode c_Fd_takeForStar 0 = .ok (.ldc2_w 148, 3) := by decide +kernel
theorem d_Fd_takeForStar_3 : decode c_Fd_takeForStar 3 = .ok (.ldc2_w 150, 3) := by decide +kernel
theorem d_Fd_takeForStar_6 : decode c_Fd_takeForStar 6 = .ok (.aload_n 0, 1) := by decide +kernel
theorem d_Fd_takeForStar_7 : decode c_Fd_takeForStar 7 = .ok (.invokevirtual 111, 3) := by decide +kernel
theorem d_Fd_takeForStar_10 : decode c_Fd_takeForStar 10 = .ok (.invokestatic 152, 3) := by decide +kernel
theorem d_Fd_takeForStar_13 : decode c_Fd_takeForStar 13 = .ok (.invokestatic 156, 3) := by decide +kernel
theorem d_Fd_takeForStar_16 : decode c_Fd_takeForStar 16 = .ok (.l2i, 1) := by decide +kernel
theorem d_Fd_takeForStar_17 : decode c_Fd_takeForStar 17 = .ok (.ireturn, 1) := by decide +kernel
theorem d_Fd_take_0 : decode c_Fd_take 0 = .ok (.aload_n 0, 1) := by decide +kernel
theorem d_Fd_take_1 : decode c_Fd_take 1 = .ok (.getfield 34, 3) := by decide +kernel
theorem d_Fd_take_4 : decode c_Fd_take 4 = .ok (.aload_n 0, 1) := by decide +kernel
theorem d_Fd_take_5 : decode c_Fd_take 5 = .ok (.getfield 20, 3) := by decide +kernel
theorem d_Fd_take_8 : decode c_Fd_take 8 = .ok (.if_icmp .lt 5, 3) := by decide +kernel
theorem d_Fd_take_11 : decode c_Fd_take 11 = .ok (.lconst 0, 1) := by decide +kernel
theorem d_Fd_take_12 : decode c_Fd_take 12 = .ok (.lreturn, 1) := by decide +kernel
theorem d_Fd_take_13 : decode c_Fd_take 13 = .ok (.aload_n 0, 1) := by decide +kernel
theorem d_Fd_take_14 : decode c_Fd_take 14 = .ok (.getfield 16, 3) := by decide +kernel
theorem d_Fd_take_17 : decode c_Fd_take 17 = .ok (.aload_n 0, 1) := by decide +kernel
theorem d_Fd_take_18 : decode c_Fd_take 18 = .ok (.getfield 34, 3) := by decide +kernel
theorem d_Fd_take_21 : decode c_Fd_take 21 = .ok (.laload, 1) := by decide +kernel
theorem d_Fd_take_22 : decode c_Fd_take 22 = .ok (.lstore_n 1, 1) := by decide +kernel
theorem d_Fd_take_23 : decode c_Fd_take 23 = .ok (.aload_n 0, 1) := by decide +kernel
theorem d_Fd_take_24 : decode c_Fd_take 24 = .ok (.dup, 1) := by decide +kernel
theorem d_Fd_take_25 : decode c_Fd_take 25 = .ok (.getfield 34, 3) := by decide +kernel
theorem d_Fd_take_28 : decode c_Fd_take 28 = .ok (.iconst 1, 1) := by decide +kernel
theorem d_Fd_take_29 : decode c_Fd_take 29 = .ok (.iadd, 1) := by decide +kernel
theorem d_Fd_take_30 : decode c_Fd_take 30 = .ok (.putfield 34, 3) := by decide +kernel
theorem d_Fd_take_33 : decode c_Fd_take 33 = .ok (.lload_n 1, 1) := by decide +kernel
theorem d_Fd_take_34 : decode c_Fd_take 34 = .ok (.lreturn, 1) := by decide +kernel
theorem d_Fd_putOutPiece_0 : decode c_Fd_putOutPiece 0 = .ok (.iconst 0, 1) := by decide +kernel
theorem d_Fd_putOutPiece_1 : decode c_Fd_putOutPiece 1 = .ok (.aload_n 0, 1) := by decide +kernel
theorem d_Fd_putOutPiece_2 : decode c_Fd_putOutPiece 2 = .ok (.getfield 43, 3) := by decide +kernel
theorem d_Fd_putOutPiece_5 : decode c_Fd_putOutPiece 5 = .ok (.getfield 158, 3) := by decide +kernel
theorem d_Fd_putOutPiece_8 : decode c_Fd_putOutPiece 8 = .ok (.aload_n 1, 1) := by decide +kernel
theorem d_Fd_putOutPiece_9 : decode c_Fd_putOutPiece 9 = .ok (.getfield 161, 3) := by decide +kernel
theorem d_Fd_putOutPiece_12 : decode c_Fd_putOutPiece 12 = .ok (.isub, 1) := by decide +kernel
theorem d_Fd_putOutPiece_13 : decode c_Fd_putOutPiece 13 = .ok (.invokestatic 99, 3) := by decide +kernel
theorem d_Fd_putOutPiece_16 : decode c_Fd_putOutPiece 16 = .ok (.istore_n 2, 1) := by decide +kernel
theorem d_Fd_putOutPiece_17 : decode c_Fd_putOutPiece 17 = .ok (.aload_n 0, 1) := by decide +kernel
theorem d_Fd_putOutPiece_18 : decode c_Fd_putOutPiece 18 = .ok (.getfield 28, 3) := by decide +kernel
theorem d_Fd_putOutPiece_21 : decode c_Fd_putOutPiece 21 = .ok (.aload_n 1, 1) := by decide +kernel
theorem d_Fd_putOutPiece_22 : decode c_Fd_putOutPiece 22 = .ok (.getfield 161, 3) := by decide +kernel
theorem d_Fd_putOutPiece_25 : decode c_Fd_putOutPiece 25 = .ok (.iadd, 1) := by decide +kernel
theorem d_Fd_putOutPiece_26 : decode c_Fd_putOutPiece 26 = .ok (.iload_n 2, 1) := by decide +kernel
theorem d_Fd_putOutPiece_27 : decode c_Fd_putOutPiece 27 = .ok (.iadd, 1) := by decide +kernel
theorem d_Fd_putOutPiece_28 : decode c_Fd_putOutPiece 28 = .ok (.sipush 4000, 3) := by decide +kernel
theorem d_Fd_putOutPiece_31 : decode c_Fd_putOutPiece 31 = .ok (.if_icmp .le 5, 3) := by decide +kernel
theorem d_Fd_putOutPiece_34 : decode c_Fd_putOutPiece 34 = .ok (.iconst 0, 1) := by decide +kernel
theorem d_Fd_putOutPiece_35 : decode c_Fd_putOutPiece 35 = .ok (.ireturn, 1) := by decide +kernel
theorem d_Fd_putOutPiece_36 : decode c_Fd_putOutPiece 36 = .ok (.aload_n 0, 1) := by decide +kernel
theorem d_Fd_putOutPiece_37 : decode c_Fd_putOutPiece 37 = .ok (.getfield 43, 3) := by decide +kernel
theorem d_Fd_putOutPiece_40 : decode c_Fd_putOutPiece 40 = .ok (.getfield 164, 3) := by decide +kernel
theorem d_Fd_putOutPiece_43 : decode c_Fd_putOutPiece 43 = .ok (.ifCond .eq 25, 3) := by decide +kernel
theorem d_Fd_putOutPiece_46 : decode c_Fd_putOutPiece 46 = .ok (.aload_n 0, 1) := by decide +kernel
theorem d_Fd_putOutPiece_47 : decode c_Fd_putOutPiece 47 = .ok (.getfield 43, 3) := by decide +kernel
theorem d_Fd_putOutPiece_50 : decode c_Fd_putOutPiece 50 = .ok (.getfield 167, 3) := by decide +kernel
theorem d_Fd_putOutPiece_53 : decode c_Fd_putOutPiece 53 = .ok (.ifCond .ne 15, 3) := by decide +kernel
theorem d_Fd_putOutPiece_56 : decode c_Fd_putOutPiece 56 = .ok (.aload_n 1, 1) := by decide +kernel
theorem d_Fd_putOutPiece_57 : decode c_Fd_putOutPiece 57 = .ok (.getfield 170, 3) := by decide +kernel
theorem d_Fd_putOutPiece_60 : decode c_Fd_putOutPiece 60 = .ok (.iconst (-1), 1) := by decide +kernel
theorem d_Fd_putOutPiece_61 : decode c_Fd_putOutPiece 61 = .ok (.if_icmp .eq 7, 3) := by decide +kernel
theorem d_Fd_putOutPiece_64 : decode c_Fd_putOutPiece 64 = .ok (.iconst 1, 1) := by decide +kernel
theorem d_Fd_putOutPiece_65 : decode c_Fd_putOutPiece 65 = .ok (.goto 4, 3) := by decide +kernel
theorem d_Fd_putOutPiece_68 : decode c_Fd_putOutPiece 68 = .ok (.iconst 0, 1) := by decide +kernel
theorem d_Fd_putOutPiece_69 : decode c_Fd_putOutPiece 69 = .ok (.istore_n 3, 1) := by decide +kernel
theorem d_Fd_putOutPiece_70 : decode c_Fd_putOutPiece 70 = .ok (.aload_n 0, 1) := by decide +kernel
theorem d_Fd_putOutPiece_71 : decode c_Fd_putOutPiece 71 = .ok (.getfield 43, 3) := by decide +kernel
theorem d_Fd_putOutPiece_74 : decode c_Fd_putOutPiece 74 = .ok (.getfield 167, 3) := by decide +kernel
theorem d_Fd_putOutPiece_77 : decode c_Fd_putOutPiece 77 = .ok (.ifCond .eq 10, 3) := by decide +kernel
theorem d_Fd_putOutPiece_80 : decode c_Fd_putOutPiece 80 = .ok (.aload_n 1, 1) := by decide +kernel
theorem d_Fd_putOutPiece_81 : decode c_Fd_putOutPiece 81 = .ok (.getfield 161, 3) := by decide +kernel
theorem d_Fd_putOutPiece_84 : decode c_Fd_putOutPiece 84 = .ok (.goto 15, 3) := by decide +kernel
theorem d_Fd_putOutPiece_87 : decode c_Fd_putOutPiece 87 = .ok (.iload_n 3, 1) := by decide +kernel
theorem d_Fd_putOutPiece_88 : decode c_Fd_putOutPiece 88 = .ok (.ifCond .eq 10, 3) := by decide +kernel
theorem d_Fd_putOutPiece_91 : decode c_Fd_putOutPiece 91 = .ok (.aload_n 1, 1) := by decide +kernel
theorem d_Fd_putOutPiece_92 : decode c_Fd_putOutPiece 92 = .ok (.getfield 170, 3) := by decide +kernel
theorem d_Fd_putOutPiece_95 : decode c_Fd_putOutPiece 95 = .ok (.goto 4, 3) := by decide +kernel
theorem d_Fd_putOutPiece_98 : decode c_Fd_putOutPiece 98 = .ok (.iconst 0, 1) := by decide +kernel
theorem d_Fd_putOutPiece_99 : decode c_Fd_putOutPiece 99 = .ok (.istore 4, 2) := by decide +kernel
theorem d_Fd_putOutPiece_101 : decode c_Fd_putOutPiece 101 = .ok (.iconst 0, 1) := by decide +kernel
theorem d_Fd_putOutPiece_102 : decode c_Fd_putOutPiece 102 = .ok (.istore 5, 2) := by decide +kernel
theorem d_Fd_putOutPiece_104 : decode c_Fd_putOutPiece 104 = .ok (.iload 5, 2) := by decide +kernel
theorem d_Fd_putOutPiece_106 : decode c_Fd_putOutPiece 106 = .ok (.iload 4, 2) := by decide +kernel
theorem d_Fd_putOutPiece_108 : decode c_Fd_putOutPiece 108 = .ok (.if_icmp .ge 20, 3) := by decide +kernel
theorem d_Fd_putOutPiece_111 : decode c_Fd_putOutPiece 111 = .ok (.aload_n 0, 1) := by decide +kernel
theorem d_Fd_putOutPiece_112 : decode c_Fd_putOutPiece 112 = .ok (.aload_n 1, 1) := by decide +kernel
theorem d_Fd_putOutPiece_113 : decode c_Fd_putOutPiece 113 = .ok (.iload 5, 2) := by decide +kernel
theorem d_Fd_putOutPiece_115 : decode c_Fd_putOutPiece 115 = .ok (.invokevirtual 173, 3) := by decide +kernel
theorem d_Fd_putOutPiece_118 : decode c_Fd_putOutPiece 118 = .ok (.invokevirtual 127, 3) := by decide +kernel
theorem d_Fd_putOutPiece_121 : decode c_Fd_putOutPiece 121 = .ok (.pop, 1) := by decide +kernel
theorem d_Fd_putOutPiece_122 : decode c_Fd_putOutPiece 122 = .ok (.iinc 5 1, 3) := by decide +kernel
theorem d_Fd_putOutPiece_125 : decode c_Fd_putOutPiece 125 = .ok (.goto (-21), 3) := by decide +kernel
theorem d_Fd_putOutPiece_128 : decode c_Fd_putOutPiece 128 = .ok (.iconst 0, 1) := by decide +kernel
theorem d_Fd_putOutPiece_129 : decode c_Fd_putOutPiece 129 = .ok (.istore 5, 2) := by decide +kernel
theorem d_Fd_putOutPiece_131 : decode c_Fd_putOutPiece 131 = .ok (.iload 5, 2) := by decide +kernel
theorem d_Fd_putOutPiece_133 : decode c_Fd_putOutPiece 133 = .ok (.iload_n 2, 1) := by decide +kernel
theorem d_Fd_putOutPiece_134 : decode c_Fd_putOutPiece 134 = .ok (.if_icmp .ge 25, 3) := by decide +kernel
theorem d_Fd_putOutPiece_137 : decode c_Fd_putOutPiece 137 = .ok (.aload_n 0, 1) := by decide +kernel
theorem d_Fd_putOutPiece_138 : decode c_Fd_putOutPiece 138 = .ok (.iload_n 3, 1) := by decide +kernel
theorem d_Fd_putOutPiece_139 : decode c_Fd_putOutPiece 139 = .ok (.ifCond .eq 8, 3) := by decide +kernel
theorem d_Fd_putOutPiece_142 : decode c_Fd_putOutPiece 142 = .ok (.bipush 48, 2) := by decide +kernel
theorem d_Fd_putOutPiece_144 : decode c_Fd_putOutPiece 144 = .ok (.goto 5, 3) := by decide +kernel
theorem d_Fd_putOutPiece_147 : decode c_Fd_putOutPiece 147 = .ok (.bipush 32, 2) := by decide +kernel
theorem d_Fd_putOutPiece_149 : decode c_Fd_putOutPiece 149 = .ok (.invokevirtual 127, 3) := by decide +kernel
theorem d_Fd_putOutPiece_152 : decode c_Fd_putOutPiece 152 = .ok (.pop, 1) := by decide +kernel
theorem d_Fd_putOutPiece_153 : decode c_Fd_putOutPiece 153 = .ok (.iinc 5 1, 3) := by decide +kernel
theorem d_Fd_putOutPiece_156 : decode c_Fd_putOutPiece 156 = .ok (.goto (-25), 3) := by decide +kernel
theorem d_Fd_putOutPiece_159 : decode c_Fd_putOutPiece 159 = .ok (.iload 4, 2) := by decide +kernel
theorem d_Fd_putOutPiece_161 : decode c_Fd_putOutPiece 161 = .ok (.istore 5, 2) := by decide +kernel
theorem d_Fd_putOutPiece_163 : decode c_Fd_putOutPiece 163 = .ok (.iload 5, 2) := by decide +kernel
theorem d_Fd_putOutPiece_165 : decode c_Fd_putOutPiece 165 = .ok (.aload_n 1, 1) := by decide +kernel
theorem d_Fd_putOutPiece_166 : decode c_Fd_putOutPiece 166 = .ok (.getfield 161, 3) := by decide +kernel
theorem d_Fd_putOutPiece_169 : decode c_Fd_putOutPiece 169 = .ok (.if_icmp .ge 20, 3) := by decide +kernel
theorem d_Fd_putOutPiece_172 : decode c_Fd_putOutPiece 172 = .ok (.aload_n 0, 1) := by decide +kernel
theorem d_Fd_putOutPiece_173 : decode c_Fd_putOutPiece 173 = .ok (.aload_n 1, 1) := by decide +kernel
theorem d_Fd_putOutPiece_174 : decode c_Fd_putOutPiece 174 = .ok (.iload 5, 2) := by decide +kernel
theorem d_Fd_putOutPiece_176 : decode c_Fd_putOutPiece 176 = .ok (.invokevirtual 173, 3) := by decide +kernel
theorem d_Fd_putOutPiece_179 : decode c_Fd_putOutPiece 179 = .ok (.invokevirtual 127, 3) := by decide +kernel
theorem d_Fd_putOutPiece_182 : decode c_Fd_putOutPiece 182 = .ok (.pop, 1) := by decide +kernel
theorem d_Fd_putOutPiece_183 : decode c_Fd_putOutPiece 183 = .ok (.iinc 5 1, 3) := by decide +kernel
theorem d_Fd_putOutPiece_186 : decode c_Fd_putOutPiece 186 = .ok (.goto (-23), 3) := by decide +kernel
theorem d_Fd_putOutPiece_189 : decode c_Fd_putOutPiece 189 = .ok (.iconst 1, 1) := by decide +kernel
theorem d_Fd_putOutPiece_190 : decode c_Fd_putOutPiece 190 = .ok (.ireturn, 1) := by decide +kernel
theorem d_Fd_putOut_0 : decode c_Fd_putOut 0 = .ok (.aload_n 0, 1) := by decide +kernel
theorem d_Fd_putOut_1 : decode c_Fd_putOut 1 = .ok (.getfield 28, 3) := by decide +kernel
theorem d_Fd_putOut_4 : decode c_Fd_putOut 4 = .ok (.sipush 4000, 3) := by decide +kernel
theorem d_Fd_putOut_7 : decode c_Fd_putOut 7 = .ok (.if_icmp .lt 5, 3) := by decide +kernel
theorem d_Fd_putOut_10 : decode c_Fd_putOut 10 = .ok (.iconst 0, 1) := by decide +kernel
theorem d_Fd_putOut_11 : decode c_Fd_putOut 11 = .ok (.ireturn, 1) := by decide +kernel
theorem d_Fd_putOut_12 : decode c_Fd_putOut 12 = .ok (.aload_n 0, 1) := by decide +kernel
theorem d_Fd_putOut_13 : decode c_Fd_putOut 13 = .ok (.getfield 24, 3) := by decide +kernel
theorem d_Fd_putOut_16 : decode c_Fd_putOut 16 = .ok (.aload_n 0, 1) := by decide +kernel
theorem d_Fd_putOut_17 : decode c_Fd_putOut 17 = .ok (.getfield 28, 3) := by decide +kernel
theorem d_Fd_putOut_20 : decode c_Fd_putOut 20 = .ok (.iload_n 1, 1) := by decide +kernel
theorem d_Fd_putOut_21 : decode c_Fd_putOut 21 = .ok (.i2b, 1) := by decide +kernel
theorem d_Fd_putOut_22 : decode c_Fd_putOut 22 = .ok (.bastore, 1) := by decide +kernel
theorem d_Fd_putOut_23 : decode c_Fd_putOut 23 = .ok (.aload_n 0, 1) := by decide +kernel
theorem d_Fd_putOut_24 : decode c_Fd_putOut 24 = .ok (.dup, 1) := by decide +kernel
theorem d_Fd_putOut_25 : decode c_Fd_putOut 25 = .ok (.getfield 28, 3) := by decide +kernel
theorem d_Fd_putOut_28 : decode c_Fd_putOut 28 = .ok (.iconst 1, 1) := by decide +kernel
theorem d_Fd_putOut_29 : decode c_Fd_putOut 29 = .ok (.iadd, 1) := by decide +kernel
theorem d_Fd_putOut_30 : decode c_Fd_putOut 30 = .ok (.putfield 28, 3) := by decide +kernel
theorem d_Fd_putOut_33 : decode c_Fd_putOut 33 = .ok (.iconst 1, 1) := by decide +kernel
theorem d_Fd_putOut_34 : decode c_Fd_putOut 34 = .ok (.ireturn, 1) := by decide +kernel
end
section
/-! decode rows: Mo -/
theorem d_Mo_init_0 : decode c_Mo_init 0 = .ok (.aload_n 0, 1) := by decide +kernel
theorem d_Mo_init_1 : decode c_Mo_init 1 = .ok (.invokespecial 1, 3) := by decide +kernel
theorem d_Mo_init_4 : decode c_Mo_init 4 = .ok (.aload_n 0, 1) := by decide +kernel
theorem d_Mo_init_5 : decode c_Mo_init 5 = .ok (.iconst (-1), 1) := by decide +kernel
theorem d_Mo_init_6 : decode c_Mo_init 6 = .ok (.putfield 7, 3) := by decide +kernel
theorem d_Mo_init_9 : decode c_Mo_init 9 = .ok (.aload_n 0, 1) := by decide +kernel
theorem d_Mo_init_10 : decode c_Mo_init 10 = .ok (.sipush 400, 3) := by decide +kernel
theorem d_Mo_init_13 : decode c_Mo_init 13 = .ok (.newarray .int, 2) := by decide +kernel
theorem d_Mo_init_15 : decode c_Mo_init 15 = .ok (.putfield 13, 3) := by decide +kernel
theorem d_Mo_init_18 : decode c_Mo_init 18 = .ok (.aload_n 0, 1) := by decide +kernel
theorem d_Mo_init_19 : decode c_Mo_init 19 = .ok (.sipush 4000, 3) := by decide +kernel
theorem d_Mo_init_22 : decode c_Mo_init 22 = .ok (.newarray .int, 2) := by decide +kernel
theorem d_Mo_init_24 : decode c_Mo_init 24 = .ok (.putfield 17, 3) := by decide +kernel
theorem d_Mo_init_27 : decode c_Mo_init 27 = .ok (.aload_n 0, 1) := by decide +kernel
theorem d_Mo_init_28 : decode c_Mo_init 28 = .ok (.bipush 60, 2) := by decide +kernel
theorem d_Mo_init_30 : decode c_Mo_init 30 = .ok (.newarray .long, 2) := by decide +kernel
theorem d_Mo_init_32 : decode c_Mo_init 32 = .ok (.putfield 20, 3) := by decide +kernel
theorem d_Mo_init_35 : decode c_Mo_init 35 = .ok (.aload_n 0, 1) := by decide +kernel
theorem d_Mo_init_36 : decode c_Mo_init 36 = .ok (.iconst 4, 1) := by decide +kernel
theorem d_Mo_init_37 : decode c_Mo_init 37 = .ok (.newarray .int, 2) := by decide +kernel
theorem d_Mo_init_39 : decode c_Mo_init 39 = .ok (.putfield 24, 3) := by decide +kernel
theorem d_Mo_init_42 : decode c_Mo_init 42 = .ok (.aload_n 0, 1) := by decide +kernel
theorem d_Mo_init_43 : decode c_Mo_init 43 = .ok (.sipush 2600, 3) := by decide +kernel
theorem d_Mo_init_46 : decode c_Mo_init 46 = .ok (.newarray .int, 2) := by decide +kernel
theorem d_Mo_init_48 : decode c_Mo_init 48 = .ok (.putfield 27, 3) := by decide +kernel
theorem d_Mo_init_51 : decode c_Mo_init 51 = .ok (.aload_n 0, 1) := by decide +kernel
theorem d_Mo_init_52 : decode c_Mo_init 52 = .ok (.bipush 80, 2) := by decide +kernel
theorem d_Mo_init_54 : decode c_Mo_init 54 = .ok (.newarray .int, 2) := by decide +kernel
theorem d_Mo_init_56 : decode c_Mo_init 56 = .ok (.putfield 30, 3) := by decide +kernel
theorem d_Mo_init_59 : decode c_Mo_init 59 = .ok (.aload_n 0, 1) := by decide +kernel
theorem d_Mo_init_60 : decode c_Mo_init 60 = .ok (.sipush 1200, 3) := by decide +kernel
theorem d_Mo_init_63 : decode c_Mo_init 63 = .ok (.newarray .int, 2) := by decide +kernel
theorem d_Mo_init_65 : decode c_Mo_init 65 = .ok (.putfield 33, 3) := by decide +kernel
theorem d_Mo_init_68 : decode c_Mo_init 68 = .ok (.aload_n 0, 1) := by decide +kernel
theorem d_Mo_init_69 : decode c_Mo_init 69 = .ok (.sipush 1200, 3) := by decide +kernel
theorem d_Mo_init_72 : decode c_Mo_init 72 = .ok (.newarray .int, 2) := by decide +kernel
theorem d_Mo_init_74 : decode c_Mo_init 74 = .ok (.putfield 36, 3) := by decide +kernel
theorem d_Mo_init_77 : decode c_Mo_init 77 = .ok (.return_, 1) := by decide +kernel
theorem d_Mo_thrown_0 : decode c_Mo_thrown 0 = .ok (.aload_n 0, 1) := by decide +kernel
theorem d_Mo_thrown_1 : decode c_Mo_thrown 1 = .ok (.getfield 39, 3) := by decide +kernel
theorem d_Mo_thrown_4 : decode c_Mo_thrown 4 = .ok (.ireturn, 1) := by decide +kernel
theorem d_Mo_in_0 : decode c_Mo_in 0 = .ok (.iload_n 0, 1) := by decide +kernel
theorem d_Mo_in_1 : decode c_Mo_in 1 = .ok (.iload_n 1, 1) := by decide +kernel
theorem d_Mo_in_2 : decode c_Mo_in 2 = .ok (.if_icmp .lt 12, 3) := by decide +kernel
theorem d_Mo_in_5 : decode c_Mo_in 5 = .ok (.iload_n 0, 1) := by decide +kernel
theorem d_Mo_in_6 : decode c_Mo_in 6 = .ok (.iload_n 2, 1) := by decide +kernel
theorem d_Mo_in_7 : decode c_Mo_in 7 = .ok (.if_icmp .gt 7, 3) := by decide +kernel
theorem d_Mo_in_10 : decode c_Mo_in 10 = .ok (.iconst 1, 1) := by decide +kernel
theorem d_Mo_in_11 : decode c_Mo_in 11 = .ok (.goto 4, 3) := by decide +kernel
theorem d_Mo_in_14 : decode c_Mo_in 14 = .ok (.iconst 0, 1) := by decide +kernel
theorem d_Mo_in_15 : decode c_Mo_in 15 = .ok (.ireturn, 1) := by decide +kernel
theorem d_Mo_fails_0 : decode c_Mo_fails 0 = .ok (.iload_n 1, 1) := by decide +kernel
theorem d_Mo_fails_1 : decode c_Mo_fails 1 = .ok (.ifCond .eq 15, 3) := by decide +kernel
theorem d_Mo_fails_4 : decode c_Mo_fails 4 = .ok (.aload_n 0, 1) := by decide +kernel
theorem d_Mo_fails_5 : decode c_Mo_fails 5 = .ok (.getfield 39, 3) := by decide +kernel
theorem d_Mo_fails_8 : decode c_Mo_fails 8 = .ok (.ifCond .ne 8, 3) := by decide +kernel
theorem d_Mo_fails_11 : decode c_Mo_fails 11 = .ok (.aload_n 0, 1) := by decide +kernel
theorem d_Mo_fails_12 : decode c_Mo_fails 12 = .ok (.iload_n 2, 1) := by decide +kernel
theorem d_Mo_fails_13 : decode c_Mo_fails 13 = .ok (.putfield 39, 3) := by decide +kernel
theorem d_Mo_fails_16 : decode c_Mo_fails 16 = .ok (.aload_n 0, 1) := by decide +kernel
theorem d_Mo_fails_17 : decode c_Mo_fails 17 = .ok (.getfield 39, 3) := by decide +kernel
theorem d_Mo_fails_20 : decode c_Mo_fails 20 = .ok (.ifCond .eq 7, 3) := by decide +kernel
theorem d_Mo_fails_23 : decode c_Mo_fails 23 = .ok (.iconst 1, 1) := by decide +kernel
theorem d_Mo_fails_24 : decode c_Mo_fails 24 = .ok (.goto 4, 3) := by decide +kernel
theorem d_Mo_fails_27 : decode c_Mo_fails 27 = .ok (.iconst 0, 1) := by decide +kernel
theorem d_Mo_fails_28 : decode c_Mo_fails 28 = .ok (.ireturn, 1) := by decide +kernel
theorem d_Mo_text_0 : decode c_Mo_text 0 = .ok (.aload_n 0, 1) := by decide +kernel
theorem d_Mo_text_1 : decode c_Mo_text 1 = .ok (.iconst 0, 1) := by decide +kernel
theorem d_Mo_text_2 : decode c_Mo_text 2 = .ok (.putfield 39, 3) := by decide +kernel
theorem d_Mo_text_5 : decode c_Mo_text 5 = .ok (.iconst 0, 1) := by decide +kernel
theorem d_Mo_text_6 : decode c_Mo_text 6 = .ok (.istore_n 3, 1) := by decide +kernel
theorem d_Mo_text_7 : decode c_Mo_text 7 = .ok (.iload_n 3, 1) := by decide +kernel
theorem d_Mo_text_8 : decode c_Mo_text 8 = .ok (.bipush 8, 2) := by decide +kernel
theorem d_Mo_text_10 : decode c_Mo_text 10 = .ok (.if_icmp .ge 27, 3) := by decide +kernel
theorem d_Mo_text_13 : decode c_Mo_text 13 = .ok (.lload_n 1, 1) := by decide +kernel
theorem d_Mo_text_14 : decode c_Mo_text 14 = .ok (.bipush 56, 2) := by decide +kernel
theorem d_Mo_text_16 : decode c_Mo_text 16 = .ok (.bipush 8, 2) := by decide +kernel
theorem d_Mo_text_18 : decode c_Mo_text 18 = .ok (.iload_n 3, 1) := by decide +kernel
theorem d_Mo_text_19 : decode c_Mo_text 19 = .ok (.imul, 1) := by decide +kernel
theorem d_Mo_text_20 : decode c_Mo_text 20 = .ok (.isub, 1) := by decide +kernel
theorem d_Mo_text_21 : decode c_Mo_text 21 = .ok (.lushr, 1) := by decide +kernel
theorem d_Mo_text_22 : decode c_Mo_text 22 = .ok (.ldc2_w 42, 3) := by decide +kernel
theorem d_Mo_text_25 : decode c_Mo_text 25 = .ok (.land, 1) := by decide +kernel
theorem d_Mo_text_26 : decode c_Mo_text 26 = .ok (.lconst 0, 1) := by decide +kernel
theorem d_Mo_text_27 : decode c_Mo_text 27 = .ok (.lcmp, 1) := by decide +kernel
theorem d_Mo_text_28 : decode c_Mo_text 28 = .ok (.ifCond .eq 9, 3) := by decide +kernel
theorem d_Mo_text_31 : decode c_Mo_text 31 = .ok (.iinc 3 1, 3) := by decide +kernel
theorem d_Mo_text_34 : decode c_Mo_text 34 = .ok (.goto (-27), 3) := by decide +kernel
theorem d_Mo_text_37 : decode c_Mo_text 37 = .ok (.aload_n 0, 1) := by decide +kernel
theorem d_Mo_text_38 : decode c_Mo_text 38 = .ok (.aload_n 0, 1) := by decide +kernel
theorem d_Mo_text_39 : decode c_Mo_text 39 = .ok (.getfield 44, 3) := by decide +kernel
theorem d_Mo_text_42 : decode c_Mo_text 42 = .ok (.iload_n 3, 1) := by decide +kernel
theorem d_Mo_text_43 : decode c_Mo_text 43 = .ok (.iadd, 1) := by decide +kernel
theorem d_Mo_text_44 : decode c_Mo_text 44 = .ok (.sipush 400, 3) := by decide +kernel
theorem d_Mo_text_47 : decode c_Mo_text 47 = .ok (.if_icmp .le 7, 3) := by decide +kernel
theorem d_Mo_text_50 : decode c_Mo_text 50 = .ok (.iconst 1, 1) := by decide +kernel
theorem d_Mo_text_51 : decode c_Mo_text 51 = .ok (.goto 4, 3) := by decide +kernel
theorem d_Mo_text_54 : decode c_Mo_text 54 = .ok (.iconst 0, 1) := by decide +kernel
theorem d_Mo_text_55 : decode c_Mo_text 55 = .ok (.iconst 1, 1) := by decide +kernel
theorem d_Mo_text_56 : decode c_Mo_text 56 = .ok (.invokevirtual 47, 3) := by decide +kernel
theorem d_Mo_text_59 : decode c_Mo_text 59 = .ok (.ifCond .eq 5, 3) := by decide +kernel
theorem d_Mo_text_62 : decode c_Mo_text 62 = .ok (.iconst 0, 1) := by decide +kernel
theorem d_Mo_text_63 : decode c_Mo_text 63 = .ok (.ireturn, 1) := by decide +kernel
theorem d_Mo_text_64 : decode c_Mo_text 64 = .ok (.iconst 0, 1) := by decide +kernel
theorem d_Mo_text_65 : decode c_Mo_text 65 = .ok (.istore 4, 2) := by decide +kernel
theorem d_Mo_text_67 : decode c_Mo_text 67 = .ok (.iload 4, 2) := by decide +kernel
theorem d_Mo_text_69 : decode c_Mo_text 69 = .ok (.iload_n 3, 1) := by decide +kernel
theorem d_Mo_text_70 : decode c_Mo_text 70 = .ok (.if_icmp .ge 40, 3) := by decide +kernel
theorem d_Mo_text_73 : decode c_Mo_text 73 = .ok (.aload_n 0, 1) := by decide +kernel
theorem d_Mo_text_74 : decode c_Mo_text 74 = .ok (.getfield 13, 3) := by decide +kernel
theorem d_Mo_text_77 : decode c_Mo_text 77 = .ok (.aload_n 0, 1) := by decide +kernel
theorem d_Mo_text_78 : decode c_Mo_text 78 = .ok (.dup, 1) := by decide +kernel
theorem d_Mo_text_79 : decode c_Mo_text 79 = .ok (.getfield 44, 3) := by decide +kernel
theorem d_Mo_text_82 : decode c_Mo_text 82 = .ok (.dup_x1, 1) := by decide +kernel
theorem d_Mo_text_83 : decode c_Mo_text 83 = .ok (.iconst 1, 1) := by decide +kernel
theorem d_Mo_text_84 : decode c_Mo_text 84 = .ok (.iadd, 1) := by decide +kernel
theorem d_Mo_text_85 : decode c_Mo_text 85 = .ok (.putfield 44, 3) := by decide +kernel
theorem d_Mo_text_88 : decode c_Mo_text 88 = .ok (.lload_n 1, 1) := by decide +kernel
theorem d_Mo_text_89 : decode c_Mo_text 89 = .ok (.bipush 56, 2) := by decide +kernel
theorem d_Mo_text_91 : decode c_Mo_text 91 = .ok (.bipush 8, 2) := by decide +kernel
theorem d_Mo_text_93 : decode c_Mo_text 93 = .ok (.iload 4, 2) := by decide +kernel
theorem d_Mo_text_95 : decode c_Mo_text 95 = .ok (.imul, 1) := by decide +kernel
theorem d_Mo_text_96 : decode c_Mo_text 96 = .ok (.isub, 1) := by decide +kernel
theorem d_Mo_text_97 : decode c_Mo_text 97 = .ok (.lushr, 1) := by decide +kernel
theorem d_Mo_text_98 : decode c_Mo_text 98 = .ok (.ldc2_w 42, 3) := by decide +kernel
theorem d_Mo_text_101 : decode c_Mo_text 101 = .ok (.land, 1) := by decide +kernel
theorem d_Mo_text_102 : decode c_Mo_text 102 = .ok (.l2i, 1) := by decide +kernel
theorem d_Mo_text_103 : decode c_Mo_text 103 = .ok (.iastore, 1) := by decide +kernel
theorem d_Mo_text_104 : decode c_Mo_text 104 = .ok (.iinc 4 1, 3) := by decide +kernel
theorem d_Mo_text_107 : decode c_Mo_text 107 = .ok (.goto (-40), 3) := by decide +kernel
theorem d_Mo_text_110 : decode c_Mo_text 110 = .ok (.aload_n 0, 1) := by decide +kernel
theorem d_Mo_text_111 : decode c_Mo_text 111 = .ok (.getfield 44, 3) := by decide +kernel
theorem d_Mo_text_114 : decode c_Mo_text 114 = .ok (.ireturn, 1) := by decide +kernel
theorem d_Mo_argument_0 : decode c_Mo_argument 0 = .ok (.aload_n 0, 1) := by decide +kernel
theorem d_Mo_argument_1 : decode c_Mo_argument 1 = .ok (.iconst 0, 1) := by decide +kernel
theorem d_Mo_argument_2 : decode c_Mo_argument 2 = .ok (.putfield 39, 3) := by decide +kernel
theorem d_Mo_argument_5 : decode c_Mo_argument 5 = .ok (.aload_n 0, 1) := by decide +kernel
theorem d_Mo_argument_6 : decode c_Mo_argument 6 = .ok (.aload_n 0, 1) := by decide +kernel
theorem d_Mo_argument_7 : decode c_Mo_argument 7 = .ok (.getfield 51, 3) := by decide +kernel
theorem d_Mo_argument_10 : decode c_Mo_argument 10 = .ok (.bipush 60, 2) := by decide +kernel
theorem d_Mo_argument_12 : decode c_Mo_argument 12 = .ok (.if_icmp .ne 7, 3) := by decide +kernel
theorem d_Mo_argument_15 : decode c_Mo_argument 15 = .ok (.iconst 1, 1) := by decide +kernel
theorem d_Mo_argument_16 : decode c_Mo_argument 16 = .ok (.goto 4, 3) := by decide +kernel
theorem d_Mo_argument_19 : decode c_Mo_argument 19 = .ok (.iconst 0, 1) := by decide +kernel
theorem d_Mo_argument_20 : decode c_Mo_argument 20 = .ok (.iconst 1, 1) := by decide +kernel
theorem d_Mo_argument_21 : decode c_Mo_argument 21 = .ok (.invokevirtual 47, 3) := by decide +kernel
theorem d_Mo_argument_24 : decode c_Mo_argument 24 = .ok (.ifCond .eq 5, 3) := by decide +kernel
theorem d_Mo_argument_27 : decode c_Mo_argument 27 = .ok (.iconst 0, 1) := by decide +kernel
theorem d_Mo_argument_28 : decode c_Mo_argument 28 = .ok (.ireturn, 1) := by decide +kernel
theorem d_Mo_argument_29 : decode c_Mo_argument 29 = .ok (.aload_n 0, 1) := by decide +kernel
theorem d_Mo_argument_30 : decode c_Mo_argument 30 = .ok (.getfield 20, 3) := by decide +kernel
theorem d_Mo_argument_33 : decode c_Mo_argument 33 = .ok (.aload_n 0, 1) := by decide +kernel
theorem d_Mo_argument_34 : decode c_Mo_argument 34 = .ok (.dup, 1) := by decide +kernel
theorem d_Mo_argument_35 : decode c_Mo_argument 35 = .ok (.getfield 51, 3) := by decide +kernel
theorem d_Mo_argument_38 : decode c_Mo_argument 38 = .ok (.dup_x1, 1) := by decide +kernel
theorem d_Mo_argument_39 : decode c_Mo_argument 39 = .ok (.iconst 1, 1) := by decide +kernel
theorem d_Mo_argument_40 : decode c_Mo_argument 40 = .ok (.iadd, 1) := by decide +kernel
theorem d_Mo_argument_41 : decode c_Mo_argument 41 = .ok (.putfield 51, 3) := by decide +kernel
theorem d_Mo_argument_44 : decode c_Mo_argument 44 = .ok (.lload_n 1, 1) := by decide +kernel
theorem d_Mo_argument_45 : decode c_Mo_argument 45 = .ok (.lastore, 1) := by decide +kernel
theorem d_Mo_argument_46 : decode c_Mo_argument 46 = .ok (.aload_n 0, 1) := by decide +kernel
theorem d_Mo_argument_47 : decode c_Mo_argument 47 = .ok (.getfield 51, 3) := by decide +kernel
theorem d_Mo_argument_50 : decode c_Mo_argument 50 = .ok (.ireturn, 1) := by decide +kernel
theorem d_Mo_clear_0 : decode c_Mo_clear 0 = .ok (.aload_n 0, 1) := by decide +kernel
theorem d_Mo_clear_1 : decode c_Mo_clear 1 = .ok (.iconst 0, 1) := by decide +kernel
theorem d_Mo_clear_2 : decode c_Mo_clear 2 = .ok (.putfield 39, 3) := by decide +kernel
theorem d_Mo_clear_5 : decode c_Mo_clear 5 = .ok (.aload_n 0, 1) := by decide +kernel
theorem d_Mo_clear_6 : decode c_Mo_clear 6 = .ok (.iconst 0, 1) := by decide +kernel
theorem d_Mo_clear_7 : decode c_Mo_clear 7 = .ok (.putfield 44, 3) := by decide +kernel
theorem d_Mo_clear_10 : decode c_Mo_clear 10 = .ok (.aload_n 0, 1) := by decide +kernel
theorem d_Mo_clear_11 : decode c_Mo_clear 11 = .ok (.iconst 0, 1) := by decide +kernel
theorem d_Mo_clear_12 : decode c_Mo_clear 12 = .ok (.putfield 51, 3) := by decide +kernel
theorem d_Mo_clear_15 : decode c_Mo_clear 15 = .ok (.return_, 1) := by decide +kernel
theorem d_Mo_c_0 : decode c_Mo_c 0 = .ok (.iload_n 1, 1) := by decide +kernel
theorem d_Mo_c_1 : decode c_Mo_c 1 = .ok (.aload_n 0, 1) := by decide +kernel
theorem d_Mo_c_2 : decode c_Mo_c 2 = .ok (.getfield 44, 3) := by decide +kernel
theorem d_Mo_c_5 : decode c_Mo_c 5 = .ok (.if_icmp .ge 12, 3) := by decide +kernel
theorem d_Mo_c_8 : decode c_Mo_c 8 = .ok (.aload_n 0, 1) := by decide +kernel
theorem d_Mo_c_9 : decode c_Mo_c 9 = .ok (.getfield 13, 3) := by decide +kernel
theorem d_Mo_c_12 : decode c_Mo_c 12 = .ok (.iload_n 1, 1) := by decide +kernel
theorem d_Mo_c_13 : decode c_Mo_c 13 = .ok (.iaload, 1) := by decide +kernel
theorem d_Mo_c_14 : decode c_Mo_c 14 = .ok (.goto 4, 3) := by decide +kernel
theorem d_Mo_c_17 : decode c_Mo_c 17 = .ok (.iconst (-1), 1) := by decide +kernel
theorem d_Mo_c_18 : decode c_Mo_c 18 = .ok (.ireturn, 1) := by decide +kernel
theorem d_Mo_bad_0 : decode c_Mo_bad 0 = .ok (.aload_n 0, 1) := by decide +kernel
theorem d_Mo_bad_1 : decode c_Mo_bad 1 = .ok (.getfield 7, 3) := by decide +kernel
theorem d_Mo_bad_4 : decode c_Mo_bad 4 = .ok (.ifCond .ge 8, 3) := by decide +kernel
theorem d_Mo_bad_7 : decode c_Mo_bad 7 = .ok (.aload_n 0, 1) := by decide +kernel
theorem d_Mo_bad_8 : decode c_Mo_bad 8 = .ok (.iload_n 1, 1) := by decide +kernel
theorem d_Mo_bad_9 : decode c_Mo_bad 9 = .ok (.putfield 7, 3) := by decide +kernel
theorem d_Mo_bad_12 : decode c_Mo_bad 12 = .ok (.iconst 0, 1) := by decide +kernel
theorem d_Mo_bad_13 : decode c_Mo_bad 13 = .ok (.ireturn, 1) := by decide +kernel
theorem d_Mo_number_0 : decode c_Mo_number 0 = .ok (.aload_n 0, 1) := by decide +kernel
theorem d_Mo_number_1 : decode c_Mo_number 1 = .ok (.getfield 54, 3) := by decide +kernel
theorem d_Mo_number_4 : decode c_Mo_number 4 = .ok (.istore_n 1, 1) := by decide +kernel
theorem d_Mo_number_5 : decode c_Mo_number 5 = .ok (.iconst 0, 1) := by decide +kernel
theorem d_Mo_number_6 : decode c_Mo_number 6 = .ok (.istore_n 2, 1) := by decide +kernel
theorem d_Mo_number_7 : decode c_Mo_number 7 = .ok (.aload_n 0, 1) := by decide +kernel
theorem d_Mo_number_8 : decode c_Mo_number 8 = .ok (.aload_n 0, 1) := by decide +kernel
theorem d_Mo_number_9 : decode c_Mo_number 9 = .ok (.getfield 54, 3) := by decide +kernel
theorem d_Mo_number_12 : decode c_Mo_number 12 = .ok (.invokevirtual 57, 3) := by decide +kernel
theorem d_Mo_number_15 : decode c_Mo_number 15 = .ok (.bipush 48, 2) := by decide +kernel
theorem d_Mo_number_17 : decode c_Mo_number 17 = .ok (.bipush 57, 2) := by decide +kernel
theorem d_Mo_number_19 : decode c_Mo_number 19 = .ok (.invokestatic 61, 3) := by decide +kernel
theorem d_Mo_number_22 : decode c_Mo_number 22 = .ok (.ifCond .eq 40, 3) := by decide +kernel
theorem d_Mo_number_25 : decode c_Mo_number 25 = .ok (.aload_n 0, 1) := by decide +kernel
theorem d_Mo_number_26 : decode c_Mo_number 26 = .ok (.getfield 54, 3) := by decide +kernel
theorem d_Mo_number_29 : decode c_Mo_number 29 = .ok (.iload_n 1, 1) := by decide +kernel
theorem d_Mo_number_30 : decode c_Mo_number 30 = .ok (.iconst 3, 1) := by decide +kernel
theorem d_Mo_number_31 : decode c_Mo_number 31 = .ok (.iadd, 1) := by decide +kernel
theorem d_Mo_number_32 : decode c_Mo_number 32 = .ok (.if_icmp .ge 30, 3) := by decide +kernel
theorem d_Mo_number_35 : decode c_Mo_number 35 = .ok (.bipush 10, 2) := by decide +kernel
theorem d_Mo_number_37 : decode c_Mo_number 37 = .ok (.iload_n 2, 1) := by decide +kernel
theorem d_Mo_number_38 : decode c_Mo_number 38 = .ok (.imul, 1) := by decide +kernel
theorem d_Mo_number_39 : decode c_Mo_number 39 = .ok (.aload_n 0, 1) := by decide +kernel
theorem d_Mo_number_40 : decode c_Mo_number 40 = .ok (.aload_n 0, 1) := by decide +kernel
theorem d_Mo_number_41 : decode c_Mo_number 41 = .ok (.dup, 1) := by decide +kernel
theorem d_Mo_number_42 : decode c_Mo_number 42 = .ok (.getfield 54, 3) := by decide +kernel
theorem d_Mo_number_45 : decode c_Mo_number 45 = .ok (.dup_x1, 1) := by decide +kernel
theorem d_Mo_number_46 : decode c_Mo_number 46 = .ok (.iconst 1, 1) := by decide +kernel
theorem d_Mo_number_47 : decode c_Mo_number 47 = .ok (.iadd, 1) := by decide +kernel
theorem d_Mo_number_48 : decode c_Mo_number 48 = .ok (.putfield 54, 3) := by decide +kernel
theorem d_Mo_number_51 : decode c_Mo_number 51 = .ok (.invokevirtual 57, 3) := by decide +kernel
theorem d_Mo_number_54 : decode c_Mo_number 54 = .ok (.iadd, 1) := by decide +kernel
theorem d_Mo_number_55 : decode c_Mo_number 55 = .ok (.bipush 48, 2) := by decide +kernel
theorem d_Mo_number_57 : decode c_Mo_number 57 = .ok (.isub, 1) := by decide +kernel
theorem d_Mo_number_58 : decode c_Mo_number 58 = .ok (.istore_n 2, 1) := by decide +kernel
theorem d_Mo_number_59 : decode c_Mo_number 59 = .ok (.goto (-52), 3) := by decide +kernel
theorem d_Mo_number_62 : decode c_Mo_number 62 = .ok (.iload_n 2, 1) := by decide +kernel
theorem d_Mo_number_63 : decode c_Mo_number 63 = .ok (.sipush 200, 3) := by decide +kernel
theorem d_Mo_number_66 : decode c_Mo_number 66 = .ok (.if_icmp .le 12, 3) := by decide +kernel
theorem d_Mo_number_69 : decode c_Mo_number 69 = .ok (.aload_n 0, 1) := by decide +kernel
theorem d_Mo_number_70 : decode c_Mo_number 70 = .ok (.iload_n 1, 1) := by decide +kernel
theorem d_Mo_number_71 : decode c_Mo_number 71 = .ok (.invokevirtual 65, 3) := by decide +kernel
theorem d_Mo_number_74 : decode c_Mo_number 74 = .ok (.pop, 1) := by decide +kernel
theorem d_Mo_number_75 : decode c_Mo_number 75 = .ok (.goto 40, 3) := by decide +kernel
theorem d_Mo_number_78 : decode c_Mo_number 78 = .ok (.aload_n 0, 1) := by decide +kernel
theorem d_Mo_number_79 : decode c_Mo_number 79 = .ok (.aload_n 0, 1) := by decide +kernel
theorem d_Mo_number_80 : decode c_Mo_number 80 = .ok (.getfield 54, 3) := by decide +kernel
theorem d_Mo_number_83 : decode c_Mo_number 83 = .ok (.invokevirtual 57, 3) := by decide +kernel
theorem d_Mo_number_86 : decode c_Mo_number 86 = .ok (.bipush 48, 2) := by decide +kernel
theorem d_Mo_number_88 : decode c_Mo_number 88 = .ok (.bipush 57, 2) := by decide +kernel
theorem d_Mo_number_90 : decode c_Mo_number 90 = .ok (.invokestatic 61, 3) := by decide +kernel
theorem d_Mo_number_93 : decode c_Mo_number 93 = .ok (.ifCond .eq 22, 3) := by decide +kernel
theorem d_Mo_number_96 : decode c_Mo_number 96 = .ok (.aload_n 0, 1) := by decide +kernel
theorem d_Mo_number_97 : decode c_Mo_number 97 = .ok (.getfield 54, 3) := by decide +kernel
theorem d_Mo_number_100 : decode c_Mo_number 100 = .ok (.iload_n 1, 1) := by decide +kernel
theorem d_Mo_number_101 : decode c_Mo_number 101 = .ok (.iconst 3, 1) := by decide +kernel
theorem d_Mo_number_102 : decode c_Mo_number 102 = .ok (.iadd, 1) := by decide +kernel
theorem d_Mo_number_103 : decode c_Mo_number 103 = .ok (.if_icmp .ne 12, 3) := by decide +kernel
theorem d_Mo_number_106 : decode c_Mo_number 106 = .ok (.aload_n 0, 1) := by decide +kernel
theorem d_Mo_number_107 : decode c_Mo_number 107 = .ok (.aload_n 0, 1) := by decide +kernel
theorem d_Mo_number_108 : decode c_Mo_number 108 = .ok (.getfield 54, 3) := by decide +kernel
theorem d_Mo_number_111 : decode c_Mo_number 111 = .ok (.invokevirtual 65, 3) := by decide +kernel
theorem d_Mo_number_114 : decode c_Mo_number 114 = .ok (.pop, 1) := by decide +kernel
theorem d_Mo_number_115 : decode c_Mo_number 115 = .ok (.iload_n 2, 1) := by decide +kernel
theorem d_Mo_number_116 : decode c_Mo_number 116 = .ok (.ireturn, 1) := by decide +kernel
theorem d_Mo_directive_0 : decode c_Mo_directive 0 = .ok (.aload_n 0, 1) := by decide +kernel
theorem d_Mo_directive_1 : decode c_Mo_directive 1 = .ok (.iconst 0, 1) := by decide +kernel
theorem d_Mo_directive_2 : decode c_Mo_directive 2 = .ok (.putfield 69, 3) := by decide +kernel
theorem d_Mo_directive_5 : decode c_Mo_directive 5 = .ok (.aload_n 0, 1) := by decide +kernel
theorem d_Mo_directive_6 : decode c_Mo_directive 6 = .ok (.iconst 0, 1) := by decide +kernel
theorem d_Mo_directive_7 : decode c_Mo_directive 7 = .ok (.putfield 73, 3) := by decide +kernel
theorem d_Mo_directive_10 : decode c_Mo_directive 10 = .ok (.aload_n 0, 1) := by decide +kernel
theorem d_Mo_directive_11 : decode c_Mo_directive 11 = .ok (.iconst 0, 1) := by decide +kernel
theorem d_Mo_directive_12 : decode c_Mo_directive 12 = .ok (.putfield 76, 3) := by decide +kernel
theorem d_Mo_directive_15 : decode c_Mo_directive 15 = .ok (.aload_n 0, 1) := by decide +kernel
theorem d_Mo_directive_16 : decode c_Mo_directive 16 = .ok (.iconst 0, 1) := by decide +kernel
theorem d_Mo_directive_17 : decode c_Mo_directive 17 = .ok (.putfield 79, 3) := by decide +kernel
theorem d_Mo_directive_20 : decode c_Mo_directive 20 = .ok (.aload_n 0, 1) := by decide +kernel
theorem d_Mo_directive_21 : decode c_Mo_directive 21 = .ok (.iconst 0, 1) := by decide +kernel
theorem d_Mo_directive_22 : decode c_Mo_directive 22 = .ok (.putfield 82, 3) := by decide +kernel
theorem d_Mo_directive_25 : decode c_Mo_directive 25 = .ok (.aload_n 0, 1) := by decide +kernel
theorem d_Mo_directive_26 : decode c_Mo_directive 26 = .ok (.iconst 0, 1) := by decide +kernel
theorem d_Mo_directive_27 : decode c_Mo_directive 27 = .ok (.putfield 85, 3) := by decide +kernel
theorem d_Mo_directive_30 : decode c_Mo_directive 30 = .ok (.aload_n 0, 1) := by decide +kernel
theorem d_Mo_directive_31 : decode c_Mo_directive 31 = .ok (.iconst 0, 1) := by decide +kernel
theorem d_Mo_directive_32 : decode c_Mo_directive 32 = .ok (.putfield 88, 3) := by decide +kernel
theorem d_Mo_directive_35 : decode c_Mo_directive 35 = .ok (.aload_n 0, 1) := by decide +kernel
theorem d_Mo_directive_36 : decode c_Mo_directive 36 = .ok (.iconst 0, 1) := by decide +kernel
theorem d_Mo_directive_37 : decode c_Mo_directive 37 = .ok (.putfield 91, 3) := by decide +kernel
theorem d_Mo_directive_40 : decode c_Mo_directive 40 = .ok (.aload_n 0, 1) := by decide +kernel
theorem d_Mo_directive_41 : decode c_Mo_directive 41 = .ok (.iconst (-1), 1) := by decide +kernel
theorem d_Mo_directive_42 : decode c_Mo_directive 42 = .ok (.putfield 94, 3) := by decide +kernel
theorem d_Mo_directive_45 : decode c_Mo_directive 45 = .ok (.aload_n 0, 1) := by decide +kernel
theorem d_Mo_directive_46 : decode c_Mo_directive 46 = .ok (.aload_n 0, 1) := by decide +kernel
theorem d_Mo_directive_47 : decode c_Mo_directive 47 = .ok (.getfield 54, 3) := by decide +kernel
theorem d_Mo_directive_50 : decode c_Mo_directive 50 = .ok (.invokevirtual 57, 3) := by decide +kernel
theorem d_Mo_directive_53 : decode c_Mo_directive 53 = .ok (.bipush 45, 2) := by decide +kernel
theorem d_Mo_directive_55 : decode c_Mo_directive 55 = .ok (.if_icmp .eq 55, 3) := by decide +kernel
theorem d_Mo_directive_58 : decode c_Mo_directive 58 = .ok (.aload_n 0, 1) := by decide +kernel
theorem d_Mo_directive_59 : decode c_Mo_directive 59 = .ok (.aload_n 0, 1) := by decide +kernel
theorem d_Mo_directive_60 : decode c_Mo_directive 60 = .ok (.getfield 54, 3) := by decide +kernel
theorem d_Mo_directive_63 : decode c_Mo_directive 63 = .ok (.invokevirtual 57, 3) := by decide +kernel
theorem d_Mo_directive_66 : decode c_Mo_directive 66 = .ok (.bipush 43, 2) := by decide +kernel
theorem d_Mo_directive_68 : decode c_Mo_directive 68 = .ok (.if_icmp .eq 42, 3) := by decide +kernel
theorem d_Mo_directive_71 : decode c_Mo_directive 71 = .ok (.aload_n 0, 1) := by decide +kernel
theorem d_Mo_directive_72 : decode c_Mo_directive 72 = .ok (.aload_n 0, 1) := by decide +kernel
theorem d_Mo_directive_73 : decode c_Mo_directive 73 = .ok (.getfield 54, 3) := by decide +kernel
theorem d_Mo_directive_76 : decode c_Mo_directive 76 = .ok (.invokevirtual 57, 3) := by decide +kernel
theorem d_Mo_directive_79 : decode c_Mo_directive 79 = .ok (.bipush 32, 2) := by decide +kernel
theorem d_Mo_directive_81 : decode c_Mo_directive 81 = .ok (.if_icmp .eq 29, 3) := by decide +kernel
theorem d_Mo_directive_84 : decode c_Mo_directive 84 = .ok (.aload_n 0, 1) := by decide +kernel
theorem d_Mo_directive_85 : decode c_Mo_directive 85 = .ok (.aload_n 0, 1) := by decide +kernel
theorem d_Mo_directive_86 : decode c_Mo_directive 86 = .ok (.getfield 54, 3) := by decide +kernel
theorem d_Mo_directive_89 : decode c_Mo_directive 89 = .ok (.invokevirtual 57, 3) := by decide +kernel
theorem d_Mo_directive_92 : decode c_Mo_directive 92 = .ok (.bipush 35, 2) := by decide +kernel
theorem d_Mo_directive_94 : decode c_Mo_directive 94 = .ok (.if_icmp .eq 16, 3) := by decide +kernel
theorem d_Mo_directive_97 : decode c_Mo_directive 97 = .ok (.aload_n 0, 1) := by decide +kernel
theorem d_Mo_directive_98 : decode c_Mo_directive 98 = .ok (.aload_n 0, 1) := by decide +kernel
theorem d_Mo_directive_99 : decode c_Mo_directive 99 = .ok (.getfield 54, 3) := by decide +kernel
theorem d_Mo_directive_102 : decode c_Mo_directive 102 = .ok (.invokevirtual 57, 3) := by decide +kernel
theorem d_Mo_directive_105 : decode c_Mo_directive 105 = .ok (.bipush 48, 2) := by decide +kernel
theorem d_Mo_directive_107 : decode c_Mo_directive 107 = .ok (.if_icmp .ne 105, 3) := by decide +kernel
theorem d_Mo_directive_110 : decode c_Mo_directive 110 = .ok (.aload_n 0, 1) := by decide +kernel
theorem d_Mo_directive_111 : decode c_Mo_directive 111 = .ok (.aload_n 0, 1) := by decide +kernel
theorem d_Mo_directive_112 : decode c_Mo_directive 112 = .ok (.getfield 54, 3) := by decide +kernel
theorem d_Mo_directive_115 : decode c_Mo_directive 115 = .ok (.invokevirtual 57, 3) := by decide +kernel
theorem d_Mo_directive_118 : decode c_Mo_directive 118 = .ok (.bipush 45, 2) := by decide +kernel
theorem d_Mo_directive_120 : decode c_Mo_directive 120 = .ok (.if_icmp .ne 11, 3) := by decide +kernel
theorem d_Mo_directive_123 : decode c_Mo_directive 123 = .ok (.aload_n 0, 1) := by decide +kernel
theorem d_Mo_directive_124 : decode c_Mo_directive 124 = .ok (.iconst 1, 1) := by decide +kernel
theorem d_Mo_directive_125 : decode c_Mo_directive 125 = .ok (.putfield 69, 3) := by decide +kernel
theorem d_Mo_directive_128 : decode c_Mo_directive 128 = .ok (.goto 71, 3) := by decide +kernel
theorem d_Mo_directive_131 : decode c_Mo_directive 131 = .ok (.aload_n 0, 1) := by decide +kernel
theorem d_Mo_directive_132 : decode c_Mo_directive 132 = .ok (.aload_n 0, 1) := by decide +kernel
theorem d_Mo_directive_133 : decode c_Mo_directive 133 = .ok (.getfield 54, 3) := by decide +kernel
theorem d_Mo_directive_136 : decode c_Mo_directive 136 = .ok (.invokevirtual 57, 3) := by decide +kernel
theorem d_Mo_directive_139 : decode c_Mo_directive 139 = .ok (.bipush 43, 2) := by decide +kernel
theorem d_Mo_directive_141 : decode c_Mo_directive 141 = .ok (.if_icmp .ne 11, 3) := by decide +kernel
theorem d_Mo_directive_144 : decode c_Mo_directive 144 = .ok (.aload_n 0, 1) := by decide +kernel
theorem d_Mo_directive_145 : decode c_Mo_directive 145 = .ok (.iconst 1, 1) := by decide +kernel
theorem d_Mo_directive_146 : decode c_Mo_directive 146 = .ok (.putfield 73, 3) := by decide +kernel
theorem d_Mo_directive_149 : decode c_Mo_directive 149 = .ok (.goto 50, 3) := by decide +kernel
theorem d_Mo_directive_152 : decode c_Mo_directive 152 = .ok (.aload_n 0, 1) := by decide +kernel
theorem d_Mo_directive_153 : decode c_Mo_directive 153 = .ok (.aload_n 0, 1) := by decide +kernel
theorem d_Mo_directive_154 : decode c_Mo_directive 154 = .ok (.getfield 54, 3) := by decide +kernel
theorem d_Mo_directive_157 : decode c_Mo_directive 157 = .ok (.invokevirtual 57, 3) := by decide +kernel
theorem d_Mo_directive_160 : decode c_Mo_directive 160 = .ok (.bipush 32, 2) := by decide +kernel
theorem d_Mo_directive_162 : decode c_Mo_directive 162 = .ok (.if_icmp .ne 11, 3) := by decide +kernel
theorem d_Mo_directive_165 : decode c_Mo_directive 165 = .ok (.aload_n 0, 1) := by decide +kernel
theorem d_Mo_directive_166 : decode c_Mo_directive 166 = .ok (.iconst 1, 1) := by decide +kernel
theorem d_Mo_directive_167 : decode c_Mo_directive 167 = .ok (.putfield 76, 3) := by decide +kernel
theorem d_Mo_directive_170 : decode c_Mo_directive 170 = .ok (.goto 29, 3) := by decide +kernel
theorem d_Mo_directive_173 : decode c_Mo_directive 173 = .ok (.aload_n 0, 1) := by decide +kernel
theorem d_Mo_directive_174 : decode c_Mo_directive 174 = .ok (.aload_n 0, 1) := by decide +kernel
theorem d_Mo_directive_175 : decode c_Mo_directive 175 = .ok (.getfield 54, 3) := by decide +kernel
theorem d_Mo_directive_178 : decode c_Mo_directive 178 = .ok (.invokevirtual 57, 3) := by decide +kernel
theorem d_Mo_directive_181 : decode c_Mo_directive 181 = .ok (.bipush 35, 2) := by decide +kernel
theorem d_Mo_directive_183 : decode c_Mo_directive 183 = .ok (.if_icmp .ne 11, 3) := by decide +kernel
theorem d_Mo_directive_186 : decode c_Mo_directive 186 = .ok (.aload_n 0, 1) := by decide +kernel
theorem d_Mo_directive_187 : decode c_Mo_directive 187 = .ok (.iconst 1, 1) := by decide +kernel
theorem d_Mo_directive_188 : decode c_Mo_directive 188 = .ok (.putfield 79, 3) := by decide +kernel
theorem d_Mo_directive_191 : decode c_Mo_directive 191 = .ok (.goto 8, 3) := by decide +kernel
theorem d_Mo_directive_194 : decode c_Mo_directive 194 = .ok (.aload_n 0, 1) := by decide +kernel
theorem d_Mo_directive_195 : decode c_Mo_directive 195 = .ok (.iconst 1, 1) := by decide +kernel
theorem d_Mo_directive_196 : decode c_Mo_directive 196 = .ok (.putfield 82, 3) := by decide +kernel
theorem d_Mo_directive_199 : decode c_Mo_directive 199 = .ok (.aload_n 0, 1) := by decide +kernel
theorem d_Mo_directive_200 : decode c_Mo_directive 200 = .ok (.dup, 1) := by decide +kernel
theorem d_Mo_directive_201 : decode c_Mo_directive 201 = .ok (.getfield 54, 3) := by decide +kernel
theorem d_Mo_directive_204 : decode c_Mo_directive 204 = .ok (.iconst 1, 1) := by decide +kernel
theorem d_Mo_directive_205 : decode c_Mo_directive 205 = .ok (.iadd, 1) := by decide +kernel
theorem d_Mo_directive_206 : decode c_Mo_directive 206 = .ok (.putfield 54, 3) := by decide +kernel
theorem d_Mo_directive_209 : decode c_Mo_directive 209 = .ok (.goto (-164), 3) := by decide +kernel
theorem d_Mo_directive_212 : decode c_Mo_directive 212 = .ok (.aload_n 0, 1) := by decide +kernel
theorem d_Mo_directive_213 : decode c_Mo_directive 213 = .ok (.aload_n 0, 1) := by decide +kernel
theorem d_Mo_directive_214 : decode c_Mo_directive 214 = .ok (.getfield 54, 3) := by decide +kernel
theorem d_Mo_directive_217 : decode c_Mo_directive 217 = .ok (.invokevirtual 57, 3) := by decide +kernel
theorem d_Mo_directive_220 : decode c_Mo_directive 220 = .ok (.bipush 42, 2) := by decide +kernel
theorem d_Mo_directive_222 : decode c_Mo_directive 222 = .ok (.if_icmp .ne 21, 3) := by decide +kernel
theorem d_Mo_directive_225 : decode c_Mo_directive 225 = .ok (.aload_n 0, 1) := by decide +kernel
theorem d_Mo_directive_226 : decode c_Mo_directive 226 = .ok (.iconst 1, 1) := by decide +kernel
theorem d_Mo_directive_227 : decode c_Mo_directive 227 = .ok (.putfield 85, 3) := by decide +kernel
theorem d_Mo_directive_230 : decode c_Mo_directive 230 = .ok (.aload_n 0, 1) := by decide +kernel
theorem d_Mo_directive_231 : decode c_Mo_directive 231 = .ok (.dup, 1) := by decide +kernel
theorem d_Mo_directive_232 : decode c_Mo_directive 232 = .ok (.getfield 54, 3) := by decide +kernel
theorem d_Mo_directive_235 : decode c_Mo_directive 235 = .ok (.iconst 1, 1) := by decide +kernel
theorem d_Mo_directive_236 : decode c_Mo_directive 236 = .ok (.iadd, 1) := by decide +kernel
theorem d_Mo_directive_237 : decode c_Mo_directive 237 = .ok (.putfield 54, 3) := by decide +kernel
theorem d_Mo_directive_240 : decode c_Mo_directive 240 = .ok (.goto 29, 3) := by decide +kernel
theorem d_Mo_directive_243 : decode c_Mo_directive 243 = .ok (.aload_n 0, 1) := by decide +kernel
theorem d_Mo_directive_244 : decode c_Mo_directive 244 = .ok (.aload_n 0, 1) := by decide +kernel
theorem d_Mo_directive_245 : decode c_Mo_directive 245 = .ok (.getfield 54, 3) := by decide +kernel
theorem d_Mo_directive_248 : decode c_Mo_directive 248 = .ok (.invokevirtual 57, 3) := by decide +kernel
theorem d_Mo_directive_251 : decode c_Mo_directive 251 = .ok (.bipush 49, 2) := by decide +kernel
theorem d_Mo_directive_253 : decode c_Mo_directive 253 = .ok (.bipush 57, 2) := by decide +kernel
theorem d_Mo_directive_255 : decode c_Mo_directive 255 = .ok (.invokestatic 61, 3) := by decide +kernel
theorem d_Mo_directive_258 : decode c_Mo_directive 258 = .ok (.ifCond .eq 11, 3) := by decide +kernel
theorem d_Mo_directive_261 : decode c_Mo_directive 261 = .ok (.aload_n 0, 1) := by decide +kernel
theorem d_Mo_directive_262 : decode c_Mo_directive 262 = .ok (.aload_n 0, 1) := by decide +kernel
theorem d_Mo_directive_263 : decode c_Mo_directive 263 = .ok (.invokevirtual 97, 3) := by decide +kernel
theorem d_Mo_directive_266 : decode c_Mo_directive 266 = .ok (.putfield 91, 3) := by decide +kernel
theorem d_Mo_directive_269 : decode c_Mo_directive 269 = .ok (.aload_n 0, 1) := by decide +kernel
theorem d_Mo_directive_270 : decode c_Mo_directive 270 = .ok (.getfield 7, 3) := by decide +kernel
theorem d_Mo_directive_273 : decode c_Mo_directive 273 = .ok (.ifCond .ge 65, 3) := by decide +kernel
theorem d_Mo_directive_276 : decode c_Mo_directive 276 = .ok (.aload_n 0, 1) := by decide +kernel
theorem d_Mo_directive_277 : decode c_Mo_directive 277 = .ok (.aload_n 0, 1) := by decide +kernel
theorem d_Mo_directive_278 : decode c_Mo_directive 278 = .ok (.getfield 54, 3) := by decide +kernel
theorem d_Mo_directive_281 : decode c_Mo_directive 281 = .ok (.invokevirtual 57, 3) := by decide +kernel
theorem d_Mo_directive_284 : decode c_Mo_directive 284 = .ok (.bipush 46, 2) := by decide +kernel
theorem d_Mo_directive_286 : decode c_Mo_directive 286 = .ok (.if_icmp .ne 52, 3) := by decide +kernel
theorem d_Mo_directive_289 : decode c_Mo_directive 289 = .ok (.aload_n 0, 1) := by decide +kernel
theorem d_Mo_directive_290 : decode c_Mo_directive 290 = .ok (.dup, 1) := by decide +kernel
theorem d_Mo_directive_291 : decode c_Mo_directive 291 = .ok (.getfield 54, 3) := by decide +kernel
theorem d_Mo_directive_294 : decode c_Mo_directive 294 = .ok (.iconst 1, 1) := by decide +kernel
theorem d_Mo_directive_295 : decode c_Mo_directive 295 = .ok (.iadd, 1) := by decide +kernel
theorem d_Mo_directive_296 : decode c_Mo_directive 296 = .ok (.putfield 54, 3) := by decide +kernel
theorem d_Mo_directive_299 : decode c_Mo_directive 299 = .ok (.aload_n 0, 1) := by decide +kernel
theorem d_Mo_directive_300 : decode c_Mo_directive 300 = .ok (.aload_n 0, 1) := by decide +kernel
theorem d_Mo_directive_301 : decode c_Mo_directive 301 = .ok (.getfield 54, 3) := by decide +kernel
theorem d_Mo_directive_304 : decode c_Mo_directive 304 = .ok (.invokevirtual 57, 3) := by decide +kernel
theorem d_Mo_directive_307 : decode c_Mo_directive 307 = .ok (.bipush 42, 2) := by decide +kernel
theorem d_Mo_directive_309 : decode c_Mo_directive 309 = .ok (.if_icmp .ne 21, 3) := by decide +kernel
theorem d_Mo_directive_312 : decode c_Mo_directive 312 = .ok (.aload_n 0, 1) := by decide +kernel
theorem d_Mo_directive_313 : decode c_Mo_directive 313 = .ok (.iconst 1, 1) := by decide +kernel
theorem d_Mo_directive_314 : decode c_Mo_directive 314 = .ok (.putfield 88, 3) := by decide +kernel
theorem d_Mo_directive_317 : decode c_Mo_directive 317 = .ok (.aload_n 0, 1) := by decide +kernel
theorem d_Mo_directive_318 : decode c_Mo_directive 318 = .ok (.dup, 1) := by decide +kernel
theorem d_Mo_directive_319 : decode c_Mo_directive 319 = .ok (.getfield 54, 3) := by decide +kernel
theorem d_Mo_directive_322 : decode c_Mo_directive 322 = .ok (.iconst 1, 1) := by decide +kernel
theorem d_Mo_directive_323 : decode c_Mo_directive 323 = .ok (.iadd, 1) := by decide +kernel
theorem d_Mo_directive_324 : decode c_Mo_directive 324 = .ok (.putfield 54, 3) := by decide +kernel
theorem d_Mo_directive_327 : decode c_Mo_directive 327 = .ok (.goto 11, 3) := by decide +kernel
theorem d_Mo_directive_330 : decode c_Mo_directive 330 = .ok (.aload_n 0, 1) := by decide +kernel
theorem d_Mo_directive_331 : decode c_Mo_directive 331 = .ok (.aload_n 0, 1) := by decide +kernel
theorem d_Mo_directive_332 : decode c_Mo_directive 332 = .ok (.invokevirtual 97, 3) := by decide +kernel
theorem d_Mo_directive_335 : decode c_Mo_directive 335 = .ok (.putfield 94, 3) := by decide +kernel
theorem d_Mo_directive_338 : decode c_Mo_directive 338 = .ok (.aload_n 0, 1) := by decide +kernel
theorem d_Mo_directive_339 : decode c_Mo_directive 339 = .ok (.getfield 7, 3) := by decide +kernel
theorem d_Mo_directive_342 : decode c_Mo_directive 342 = .ok (.ifCond .lt 5, 3) := by decide +kernel
theorem d_Mo_directive_345 : decode c_Mo_directive 345 = .ok (.iconst 0, 1) := by decide +kernel
theorem d_Mo_directive_346 : decode c_Mo_directive 346 = .ok (.ireturn, 1) := by decide +kernel
theorem d_Mo_directive_347 : decode c_Mo_directive 347 = .ok (.ldc 101, 2) := by decide +kernel
theorem d_Mo_directive_349 : decode c_Mo_directive 349 = .ok (.astore_n 1, 1) := by decide +kernel
theorem d_Mo_directive_350 : decode c_Mo_directive 350 = .ok (.iconst 0, 1) := by decide +kernel
theorem d_Mo_directive_351 : decode c_Mo_directive 351 = .ok (.istore_n 2, 1) := by decide +kernel
theorem d_Mo_directive_352 : decode c_Mo_directive 352 = .ok (.iload_n 2, 1) := by decide +kernel
theorem d_Mo_directive_353 : decode c_Mo_directive 353 = .ok (.aload_n 1, 1) := by decide +kernel
theorem d_Mo_directive_354 : decode c_Mo_directive 354 = .ok (.invokevirtual 103, 3) := by decide +kernel
theorem d_Mo_directive_357 : decode c_Mo_directive 357 = .ok (.if_icmp .ge 27, 3) := by decide +kernel
theorem d_Mo_directive_360 : decode c_Mo_directive 360 = .ok (.aload_n 0, 1) := by decide +kernel
theorem d_Mo_directive_361 : decode c_Mo_directive 361 = .ok (.aload_n 0, 1) := by decide +kernel
theorem d_Mo_directive_362 : decode c_Mo_directive 362 = .ok (.getfield 54, 3) := by decide +kernel
theorem d_Mo_directive_365 : decode c_Mo_directive 365 = .ok (.invokevirtual 57, 3) := by decide +kernel
theorem d_Mo_directive_368 : decode c_Mo_directive 368 = .ok (.aload_n 1, 1) := by decide +kernel
theorem d_Mo_directive_369 : decode c_Mo_directive 369 = .ok (.iload_n 2, 1) := by decide +kernel
theorem d_Mo_directive_370 : decode c_Mo_directive 370 = .ok (.invokevirtual 108, 3) := by decide +kernel
theorem d_Mo_directive_373 : decode c_Mo_directive 373 = .ok (.if_icmp .ne 5, 3) := by decide +kernel
theorem d_Mo_directive_376 : decode c_Mo_directive 376 = .ok (.iconst 1, 1) := by decide +kernel
theorem d_Mo_directive_377 : decode c_Mo_directive 377 = .ok (.ireturn, 1) := by decide +kernel
theorem d_Mo_directive_378 : decode c_Mo_directive 378 = .ok (.iinc 2 1, 3) := by decide +kernel
theorem d_Mo_directive_381 : decode c_Mo_directive 381 = .ok (.goto (-29), 3) := by decide +kernel
theorem d_Mo_directive_384 : decode c_Mo_directive 384 = .ok (.aload_n 0, 1) := by decide +kernel
theorem d_Mo_directive_385 : decode c_Mo_directive 385 = .ok (.aload_n 0, 1) := by decide +kernel
theorem d_Mo_directive_386 : decode c_Mo_directive 386 = .ok (.getfield 54, 3) := by decide +kernel
theorem d_Mo_directive_389 : decode c_Mo_directive 389 = .ok (.invokevirtual 65, 3) := by decide +kernel
theorem d_Mo_directive_392 : decode c_Mo_directive 392 = .ok (.ireturn, 1) := by decide +kernel
theorem d_Mo_next_0 : decode c_Mo_next 0 = .ok (.aload_n 0, 1) := by decide +kernel
theorem d_Mo_next_1 : decode c_Mo_next 1 = .ok (.getfield 112, 3) := by decide +kernel
theorem d_Mo_next_4 : decode c_Mo_next 4 = .ok (.aload_n 0, 1) := by decide +kernel
theorem d_Mo_next_5 : decode c_Mo_next 5 = .ok (.getfield 51, 3) := by decide +kernel
theorem d_Mo_next_8 : decode c_Mo_next 8 = .ok (.if_icmp .ge 22, 3) := by decide +kernel
theorem d_Mo_next_11 : decode c_Mo_next 11 = .ok (.aload_n 0, 1) := by decide +kernel
theorem d_Mo_next_12 : decode c_Mo_next 12 = .ok (.getfield 20, 3) := by decide +kernel
theorem d_Mo_next_15 : decode c_Mo_next 15 = .ok (.aload_n 0, 1) := by decide +kernel
theorem d_Mo_next_16 : decode c_Mo_next 16 = .ok (.dup, 1) := by decide +kernel
theorem d_Mo_next_17 : decode c_Mo_next 17 = .ok (.getfield 112, 3) := by decide +kernel
theorem d_Mo_next_20 : decode c_Mo_next 20 = .ok (.dup_x1, 1) := by decide +kernel
theorem d_Mo_next_21 : decode c_Mo_next 21 = .ok (.iconst 1, 1) := by decide +kernel
theorem d_Mo_next_22 : decode c_Mo_next 22 = .ok (.iadd, 1) := by decide +kernel
theorem d_Mo_next_23 : decode c_Mo_next 23 = .ok (.putfield 112, 3) := by decide +kernel
theorem d_Mo_next_26 : decode c_Mo_next 26 = .ok (.laload, 1) := by decide +kernel
theorem d_Mo_next_27 : decode c_Mo_next 27 = .ok (.goto 4, 3) := by decide +kernel
theorem d_Mo_next_30 : decode c_Mo_next 30 = .ok (.lconst 0, 1) := by decide +kernel
theorem d_Mo_next_31 : decode c_Mo_next 31 = .ok (.lreturn, 1) := by decide +kernel
theorem d_Mo_limited_0 : decode c_Mo_limited 0 = .ok (.lload_n 0, 1) := by decide +kernel
theorem d_Mo_limited_1 : decode c_Mo_limited 1 = .ok (.ldc2_w 115, 3) := by decide +kernel
theorem d_Mo_limited_4 : decode c_Mo_limited 4 = .ok (.lcmp, 1) := by decide +kernel
theorem d_Mo_limited_5 : decode c_Mo_limited 5 = .ok (.ifCond .ge 9, 3) := by decide +kernel
theorem d_Mo_limited_8 : decode c_Mo_limited 8 = .ok (.sipush (-200), 3) := by decide +kernel
theorem d_Mo_limited_11 : decode c_Mo_limited 11 = .ok (.goto 19, 3) := by decide +kernel
theorem d_Mo_limited_14 : decode c_Mo_limited 14 = .ok (.lload_n 0, 1) := by decide +kernel
theorem d_Mo_limited_15 : decode c_Mo_limited 15 = .ok (.ldc2_w 117, 3) := by decide +kernel
theorem d_Mo_limited_18 : decode c_Mo_limited 18 = .ok (.lcmp, 1) := by decide +kernel
theorem d_Mo_limited_19 : decode c_Mo_limited 19 = .ok (.ifCond .le 9, 3) := by decide +kernel
theorem d_Mo_limited_22 : decode c_Mo_limited 22 = .ok (.sipush 200, 3) := by decide +kernel
theorem d_Mo_limited_25 : decode c_Mo_limited 25 = .ok (.goto 5, 3) := by decide +kernel
theorem d_Mo_limited_28 : decode c_Mo_limited 28 = .ok (.lload_n 0, 1) := by decide +kernel
theorem d_Mo_limited_29 : decode c_Mo_limited 29 = .ok (.l2i, 1) := by decide +kernel
theorem d_Mo_limited_30 : decode c_Mo_limited 30 = .ok (.ireturn, 1) := by decide +kernel
theorem d_Mo_run_0 : decode c_Mo_run 0 = .ok (.aload_n 0, 1) := by decide +kernel
theorem d_Mo_run_1 : decode c_Mo_run 1 = .ok (.iconst 0, 1) := by decide +kernel
theorem d_Mo_run_2 : decode c_Mo_run 2 = .ok (.putfield 39, 3) := by decide +kernel
theorem d_Mo_run_5 : decode c_Mo_run 5 = .ok (.aload_n 0, 1) := by decide +kernel
theorem d_Mo_run_6 : decode c_Mo_run 6 = .ok (.iconst 0, 1) := by decide +kernel
theorem d_Mo_run_7 : decode c_Mo_run 7 = .ok (.putfield 119, 3) := by decide +kernel
theorem d_Mo_run_10 : decode c_Mo_run 10 = .ok (.aload_n 0, 1) := by decide +kernel
theorem d_Mo_run_11 : decode c_Mo_run 11 = .ok (.iconst 0, 1) := by decide +kernel
theorem d_Mo_run_12 : decode c_Mo_run 12 = .ok (.putfield 112, 3) := by decide +kernel
theorem d_Mo_run_15 : decode c_Mo_run 15 = .ok (.aload_n 0, 1) := by decide +kernel
theorem d_Mo_run_16 : decode c_Mo_run 16 = .ok (.iconst 0, 1) := by decide +kernel
theorem d_Mo_run_17 : decode c_Mo_run 17 = .ok (.putfield 122, 3) := by decide +kernel
theorem d_Mo_run_20 : decode c_Mo_run 20 = .ok (.aload_n 0, 1) := by decide +kernel
theorem d_Mo_run_21 : decode c_Mo_run 21 = .ok (.iconst (-1), 1) := by decide +kernel
theorem d_Mo_run_22 : decode c_Mo_run 22 = .ok (.putfield 7, 3) := by decide +kernel
theorem d_Mo_run_25 : decode c_Mo_run 25 = .ok (.iconst 0, 1) := by decide +kernel
theorem d_Mo_run_26 : decode c_Mo_run 26 = .ok (.istore_n 1, 1) := by decide +kernel
theorem d_Mo_run_27 : decode c_Mo_run 27 = .ok (.iload_n 1, 1) := by decide +kernel
theorem d_Mo_run_28 : decode c_Mo_run 28 = .ok (.aload_n 0, 1) := by decide +kernel
theorem d_Mo_run_29 : decode c_Mo_run 29 = .ok (.getfield 44, 3) := by decide +kernel
theorem d_Mo_run_32 : decode c_Mo_run 32 = .ok (.if_icmp .ge 31, 3) := by decide +kernel
theorem d_Mo_run_35 : decode c_Mo_run 35 = .ok (.aload_n 0, 1) := by decide +kernel
theorem d_Mo_run_36 : decode c_Mo_run 36 = .ok (.getfield 13, 3) := by decide +kernel
theorem d_Mo_run_39 : decode c_Mo_run 39 = .ok (.iload_n 1, 1) := by decide +kernel
theorem d_Mo_run_40 : decode c_Mo_run 40 = .ok (.iaload, 1) := by decide +kernel
theorem d_Mo_run_41 : decode c_Mo_run 41 = .ok (.bipush 32, 2) := by decide +kernel
theorem d_Mo_run_43 : decode c_Mo_run 43 = .ok (.bipush 126, 2) := by decide +kernel
theorem d_Mo_run_45 : decode c_Mo_run 45 = .ok (.invokestatic 61, 3) := by decide +kernel
theorem d_Mo_run_48 : decode c_Mo_run 48 = .ok (.ifCond .ne 9, 3) := by decide +kernel
theorem d_Mo_run_51 : decode c_Mo_run 51 = .ok (.aload_n 0, 1) := by decide +kernel
theorem d_Mo_run_52 : decode c_Mo_run 52 = .ok (.iload_n 1, 1) := by decide +kernel
theorem d_Mo_run_53 : decode c_Mo_run 53 = .ok (.invokevirtual 65, 3) := by decide +kernel
theorem d_Mo_run_56 : decode c_Mo_run 56 = .ok (.pop, 1) := by decide +kernel
theorem d_Mo_run_57 : decode c_Mo_run 57 = .ok (.iinc 1 1, 3) := by decide +kernel
theorem d_Mo_run_60 : decode c_Mo_run 60 = .ok (.goto (-33), 3) := by decide +kernel
theorem d_Mo_run_63 : decode c_Mo_run 63 = .ok (.aload_n 0, 1) := by decide +kernel
theorem d_Mo_run_64 : decode c_Mo_run 64 = .ok (.iconst 0, 1) := by decide +kernel
theorem d_Mo_run_65 : decode c_Mo_run 65 = .ok (.putfield 54, 3) := by decide +kernel
theorem d_Mo_run_68 : decode c_Mo_run 68 = .ok (.aload_n 0, 1) := by decide +kernel
theorem d_Mo_run_69 : decode c_Mo_run 69 = .ok (.getfield 54, 3) := by decide +kernel
theorem d_Mo_run_72 : decode c_Mo_run 72 = .ok (.aload_n 0, 1) := by decide +kernel
theorem d_Mo_run_73 : decode c_Mo_run 73 = .ok (.getfield 44, 3) := by decide +kernel
theorem d_Mo_run_76 : decode c_Mo_run 76 = .ok (.if_icmp .ge 52, 3) := by decide +kernel
theorem d_Mo_run_79 : decode c_Mo_run 79 = .ok (.aload_n 0, 1) := by decide +kernel
theorem d_Mo_run_80 : decode c_Mo_run 80 = .ok (.getfield 7, 3) := by decide +kernel
theorem d_Mo_run_83 : decode c_Mo_run 83 = .ok (.ifCond .ge 45, 3) := by decide +kernel
theorem d_Mo_run_86 : decode c_Mo_run 86 = .ok (.aload_n 0, 1) := by decide +kernel
theorem d_Mo_run_87 : decode c_Mo_run 87 = .ok (.getfield 13, 3) := by decide +kernel
theorem d_Mo_run_90 : decode c_Mo_run 90 = .ok (.aload_n 0, 1) := by decide +kernel
theorem d_Mo_run_91 : decode c_Mo_run 91 = .ok (.getfield 54, 3) := by decide +kernel
theorem d_Mo_run_94 : decode c_Mo_run 94 = .ok (.iaload, 1) := by decide +kernel
theorem d_Mo_run_95 : decode c_Mo_run 95 = .ok (.bipush 37, 2) := by decide +kernel
theorem d_Mo_run_97 : decode c_Mo_run 97 = .ok (.if_icmp .ne 18, 3) := by decide +kernel
theorem d_Mo_run_100 : decode c_Mo_run 100 = .ok (.aload_n 0, 1) := by decide +kernel
theorem d_Mo_run_101 : decode c_Mo_run 101 = .ok (.dup, 1) := by decide +kernel
theorem d_Mo_run_102 : decode c_Mo_run 102 = .ok (.getfield 54, 3) := by decide +kernel
theorem d_Mo_run_105 : decode c_Mo_run 105 = .ok (.iconst 1, 1) := by decide +kernel
theorem d_Mo_run_106 : decode c_Mo_run 106 = .ok (.iadd, 1) := by decide +kernel
theorem d_Mo_run_107 : decode c_Mo_run 107 = .ok (.putfield 54, 3) := by decide +kernel
theorem d_Mo_run_110 : decode c_Mo_run 110 = .ok (.aload_n 0, 1) := by decide +kernel
theorem d_Mo_run_111 : decode c_Mo_run 111 = .ok (.invokevirtual 125, 3) := by decide +kernel
theorem d_Mo_run_114 : decode c_Mo_run 114 = .ok (.pop, 1) := by decide +kernel
theorem d_Mo_run_115 : decode c_Mo_run 115 = .ok (.aload_n 0, 1) := by decide +kernel
theorem d_Mo_run_116 : decode c_Mo_run 116 = .ok (.dup, 1) := by decide +kernel
theorem d_Mo_run_117 : decode c_Mo_run 117 = .ok (.getfield 54, 3) := by decide +kernel
theorem d_Mo_run_120 : decode c_Mo_run 120 = .ok (.iconst 1, 1) := by decide +kernel
theorem d_Mo_run_121 : decode c_Mo_run 121 = .ok (.iadd, 1) := by decide +kernel
theorem d_Mo_run_122 : decode c_Mo_run 122 = .ok (.putfield 54, 3) := by decide +kernel
theorem d_Mo_run_125 : decode c_Mo_run 125 = .ok (.goto (-57), 3) := by decide +kernel
theorem d_Mo_run_128 : decode c_Mo_run 128 = .ok (.aload_n 0, 1) := by decide +kernel
theorem d_Mo_run_129 : decode c_Mo_run 129 = .ok (.aload_n 0, 1) := by decide +kernel
theorem d_Mo_run_130 : decode c_Mo_run 130 = .ok (.getfield 7, 3) := by decide +kernel
theorem d_Mo_run_133 : decode c_Mo_run 133 = .ok (.ifCond .lt 7, 3) := by decide +kernel
theorem d_Mo_run_136 : decode c_Mo_run 136 = .ok (.iconst 1, 1) := by decide +kernel
theorem d_Mo_run_137 : decode c_Mo_run 137 = .ok (.goto 4, 3) := by decide +kernel
theorem d_Mo_run_140 : decode c_Mo_run 140 = .ok (.iconst 0, 1) := by decide +kernel
theorem d_Mo_run_141 : decode c_Mo_run 141 = .ok (.iconst 1, 1) := by decide +kernel
theorem d_Mo_run_142 : decode c_Mo_run 142 = .ok (.invokevirtual 47, 3) := by decide +kernel
theorem d_Mo_run_145 : decode c_Mo_run 145 = .ok (.ifCond .eq 5, 3) := by decide +kernel
theorem d_Mo_run_148 : decode c_Mo_run 148 = .ok (.iconst 0, 1) := by decide +kernel
theorem d_Mo_run_149 : decode c_Mo_run 149 = .ok (.ireturn, 1) := by decide +kernel
theorem d_Mo_run_150 : decode c_Mo_run 150 = .ok (.iconst 1, 1) := by decide +kernel
theorem d_Mo_run_151 : decode c_Mo_run 151 = .ok (.istore_n 1, 1) := by decide +kernel
theorem d_Mo_run_152 : decode c_Mo_run 152 = .ok (.aload_n 0, 1) := by decide +kernel
theorem d_Mo_run_153 : decode c_Mo_run 153 = .ok (.iconst 0, 1) := by decide +kernel
theorem d_Mo_run_154 : decode c_Mo_run 154 = .ok (.putfield 54, 3) := by decide +kernel
theorem d_Mo_run_157 : decode c_Mo_run 157 = .ok (.aload_n 0, 1) := by decide +kernel
theorem d_Mo_run_158 : decode c_Mo_run 158 = .ok (.getfield 54, 3) := by decide +kernel
theorem d_Mo_run_161 : decode c_Mo_run 161 = .ok (.aload_n 0, 1) := by decide +kernel
theorem d_Mo_run_162 : decode c_Mo_run 162 = .ok (.getfield 44, 3) := by decide +kernel
theorem d_Mo_run_165 : decode c_Mo_run 165 = .ok (.if_icmp .ge 154, 3) := by decide +kernel
theorem d_Mo_run_168 : decode c_Mo_run 168 = .ok (.iload_n 1, 1) := by decide +kernel
theorem d_Mo_run_169 : decode c_Mo_run 169 = .ok (.ifCond .eq 150, 3) := by decide +kernel
theorem d_Mo_run_172 : decode c_Mo_run 172 = .ok (.aload_n 0, 1) := by decide +kernel
theorem d_Mo_run_173 : decode c_Mo_run 173 = .ok (.getfield 13, 3) := by decide +kernel
theorem d_Mo_run_176 : decode c_Mo_run 176 = .ok (.aload_n 0, 1) := by decide +kernel
theorem d_Mo_run_177 : decode c_Mo_run 177 = .ok (.getfield 54, 3) := by decide +kernel
theorem d_Mo_run_180 : decode c_Mo_run 180 = .ok (.iaload, 1) := by decide +kernel
theorem d_Mo_run_181 : decode c_Mo_run 181 = .ok (.bipush 37, 2) := by decide +kernel
theorem d_Mo_run_183 : decode c_Mo_run 183 = .ok (.if_icmp .eq 20, 3) := by decide +kernel
theorem d_Mo_run_186 : decode c_Mo_run 186 = .ok (.aload_n 0, 1) := by decide +kernel
theorem d_Mo_run_187 : decode c_Mo_run 187 = .ok (.aload_n 0, 1) := by decide +kernel
theorem d_Mo_run_188 : decode c_Mo_run 188 = .ok (.getfield 13, 3) := by decide +kernel
theorem d_Mo_run_191 : decode c_Mo_run 191 = .ok (.aload_n 0, 1) := by decide +kernel
theorem d_Mo_run_192 : decode c_Mo_run 192 = .ok (.getfield 54, 3) := by decide +kernel
theorem d_Mo_run_195 : decode c_Mo_run 195 = .ok (.iaload, 1) := by decide +kernel
theorem d_Mo_run_196 : decode c_Mo_run 196 = .ok (.invokevirtual 129, 3) := by decide +kernel
theorem d_Mo_run_199 : decode c_Mo_run 199 = .ok (.istore_n 1, 1) := by decide +kernel
theorem d_Mo_run_200 : decode c_Mo_run 200 = .ok (.goto 106, 3) := by decide +kernel
theorem d_Mo_run_203 : decode c_Mo_run 203 = .ok (.aload_n 0, 1) := by decide +kernel
theorem d_Mo_run_204 : decode c_Mo_run 204 = .ok (.dup, 1) := by decide +kernel
theorem d_Mo_run_205 : decode c_Mo_run 205 = .ok (.getfield 54, 3) := by decide +kernel
theorem d_Mo_run_208 : decode c_Mo_run 208 = .ok (.iconst 1, 1) := by decide +kernel
theorem d_Mo_run_209 : decode c_Mo_run 209 = .ok (.iadd, 1) := by decide +kernel
theorem d_Mo_run_210 : decode c_Mo_run 210 = .ok (.putfield 54, 3) := by decide +kernel
theorem d_Mo_run_213 : decode c_Mo_run 213 = .ok (.aload_n 0, 1) := by decide +kernel
theorem d_Mo_run_214 : decode c_Mo_run 214 = .ok (.invokevirtual 125, 3) := by decide +kernel
theorem d_Mo_run_217 : decode c_Mo_run 217 = .ok (.pop, 1) := by decide +kernel
theorem d_Mo_run_218 : decode c_Mo_run 218 = .ok (.aload_n 0, 1) := by decide +kernel
theorem d_Mo_run_219 : decode c_Mo_run 219 = .ok (.dup, 1) := by decide +kernel
theorem d_Mo_run_220 : decode c_Mo_run 220 = .ok (.getfield 122, 3) := by decide +kernel
theorem d_Mo_run_223 : decode c_Mo_run 223 = .ok (.iconst 1, 1) := by decide +kernel
theorem d_Mo_run_224 : decode c_Mo_run 224 = .ok (.iadd, 1) := by decide +kernel
theorem d_Mo_run_225 : decode c_Mo_run 225 = .ok (.putfield 122, 3) := by decide +kernel
theorem d_Mo_run_228 : decode c_Mo_run 228 = .ok (.aload_n 0, 1) := by decide +kernel
theorem d_Mo_run_229 : decode c_Mo_run 229 = .ok (.getfield 85, 3) := by decide +kernel
theorem d_Mo_run_232 : decode c_Mo_run 232 = .ok (.ifCond .eq 34, 3) := by decide +kernel
theorem d_Mo_run_235 : decode c_Mo_run 235 = .ok (.aload_n 0, 1) := by decide +kernel
theorem d_Mo_run_236 : decode c_Mo_run 236 = .ok (.invokevirtual 132, 3) := by decide +kernel
theorem d_Mo_run_239 : decode c_Mo_run 239 = .ok (.invokestatic 136, 3) := by decide +kernel
theorem d_Mo_run_242 : decode c_Mo_run 242 = .ok (.istore_n 2, 1) := by decide +kernel
theorem d_Mo_run_243 : decode c_Mo_run 243 = .ok (.iload_n 2, 1) := by decide +kernel
theorem d_Mo_run_244 : decode c_Mo_run 244 = .ok (.ifCond .ge 8, 3) := by decide +kernel
theorem d_Mo_run_247 : decode c_Mo_run 247 = .ok (.aload_n 0, 1) := by decide +kernel
theorem d_Mo_run_248 : decode c_Mo_run 248 = .ok (.iconst 1, 1) := by decide +kernel
theorem d_Mo_run_249 : decode c_Mo_run 249 = .ok (.putfield 69, 3) := by decide +kernel
theorem d_Mo_run_252 : decode c_Mo_run 252 = .ok (.aload_n 0, 1) := by decide +kernel
theorem d_Mo_run_253 : decode c_Mo_run 253 = .ok (.iload_n 2, 1) := by decide +kernel
theorem d_Mo_run_254 : decode c_Mo_run 254 = .ok (.ifCond .ge 8, 3) := by decide +kernel
theorem d_Mo_run_257 : decode c_Mo_run 257 = .ok (.iload_n 2, 1) := by decide +kernel
theorem d_Mo_run_258 : decode c_Mo_run 258 = .ok (.ineg, 1) := by decide +kernel
theorem d_Mo_run_259 : decode c_Mo_run 259 = .ok (.goto 4, 3) := by decide +kernel
theorem d_Mo_run_262 : decode c_Mo_run 262 = .ok (.iload_n 2, 1) := by decide +kernel
theorem d_Mo_run_263 : decode c_Mo_run 263 = .ok (.putfield 91, 3) := by decide +kernel
theorem d_Mo_run_266 : decode c_Mo_run 266 = .ok (.aload_n 0, 1) := by decide +kernel
theorem d_Mo_run_267 : decode c_Mo_run 267 = .ok (.getfield 88, 3) := by decide +kernel
theorem d_Mo_run_270 : decode c_Mo_run 270 = .ok (.ifCond .eq 18, 3) := by decide +kernel
theorem d_Mo_run_273 : decode c_Mo_run 273 = .ok (.aload_n 0, 1) := by decide +kernel
theorem d_Mo_run_274 : decode c_Mo_run 274 = .ok (.aload_n 0, 1) := by decide +kernel
theorem d_Mo_run_275 : decode c_Mo_run 275 = .ok (.invokevirtual 132, 3) := by decide +kernel
theorem d_Mo_run_278 : decode c_Mo_run 278 = .ok (.invokestatic 136, 3) := by decide +kernel
theorem d_Mo_run_281 : decode c_Mo_run 281 = .ok (.iconst (-1), 1) := by decide +kernel
theorem d_Mo_run_282 : decode c_Mo_run 282 = .ok (.invokestatic 140, 3) := by decide +kernel
theorem d_Mo_run_285 : decode c_Mo_run 285 = .ok (.putfield 94, 3) := by decide +kernel
theorem d_Mo_run_288 : decode c_Mo_run 288 = .ok (.aload_n 0, 1) := by decide +kernel
theorem d_Mo_run_289 : decode c_Mo_run 289 = .ok (.aload_n 0, 1) := by decide +kernel
theorem d_Mo_run_290 : decode c_Mo_run 290 = .ok (.getfield 13, 3) := by decide +kernel
theorem d_Mo_run_293 : decode c_Mo_run 293 = .ok (.aload_n 0, 1) := by decide +kernel
theorem d_Mo_run_294 : decode c_Mo_run 294 = .ok (.getfield 54, 3) := by decide +kernel
theorem d_Mo_run_297 : decode c_Mo_run 297 = .ok (.iaload, 1) := by decide +kernel
theorem d_Mo_run_298 : decode c_Mo_run 298 = .ok (.invokevirtual 146, 3) := by decide +kernel
theorem d_Mo_run_301 : decode c_Mo_run 301 = .ok (.aload_n 0, 1) := by decide +kernel
theorem d_Mo_run_302 : decode c_Mo_run 302 = .ok (.invokevirtual 150, 3) := by decide +kernel
theorem d_Mo_run_305 : decode c_Mo_run 305 = .ok (.istore_n 1, 1) := by decide +kernel
theorem d_Mo_run_306 : decode c_Mo_run 306 = .ok (.aload_n 0, 1) := by decide +kernel
theorem d_Mo_run_307 : decode c_Mo_run 307 = .ok (.dup, 1) := by decide +kernel
theorem d_Mo_run_308 : decode c_Mo_run 308 = .ok (.getfield 54, 3) := by decide +kernel
theorem d_Mo_run_311 : decode c_Mo_run 311 = .ok (.iconst 1, 1) := by decide +kernel
theorem d_Mo_run_312 : decode c_Mo_run 312 = .ok (.iadd, 1) := by decide +kernel
theorem d_Mo_run_313 : decode c_Mo_run 313 = .ok (.putfield 54, 3) := by decide +kernel
theorem d_Mo_run_316 : decode c_Mo_run 316 = .ok (.goto (-159), 3) := by decide +kernel
theorem d_Mo_run_319 : decode c_Mo_run 319 = .ok (.iload_n 1, 1) := by decide +kernel
theorem d_Mo_run_320 : decode c_Mo_run 320 = .ok (.ifCond .ne 18, 3) := by decide +kernel
theorem d_Mo_run_323 : decode c_Mo_run 323 = .ok (.aload_n 0, 1) := by decide +kernel
theorem d_Mo_run_324 : decode c_Mo_run 324 = .ok (.iconst 0, 1) := by decide +kernel
theorem d_Mo_run_325 : decode c_Mo_run 325 = .ok (.putfield 119, 3) := by decide +kernel
theorem d_Mo_run_328 : decode c_Mo_run 328 = .ok (.aload_n 0, 1) := by decide +kernel
theorem d_Mo_run_329 : decode c_Mo_run 329 = .ok (.iconst 0, 1) := by decide +kernel
theorem d_Mo_run_330 : decode c_Mo_run 330 = .ok (.putfield 112, 3) := by decide +kernel
theorem d_Mo_run_333 : decode c_Mo_run 333 = .ok (.aload_n 0, 1) := by decide +kernel
theorem d_Mo_run_334 : decode c_Mo_run 334 = .ok (.iconst 0, 1) := by decide +kernel
theorem d_Mo_run_335 : decode c_Mo_run 335 = .ok (.putfield 122, 3) := by decide +kernel
theorem d_Mo_run_338 : decode c_Mo_run 338 = .ok (.aload_n 0, 1) := by decide +kernel
theorem d_Mo_run_339 : decode c_Mo_run 339 = .ok (.iload_n 1, 1) := by decide +kernel
theorem d_Mo_run_340 : decode c_Mo_run 340 = .ok (.ifCond .ne 7, 3) := by decide +kernel
theorem d_Mo_run_343 : decode c_Mo_run 343 = .ok (.iconst 1, 1) := by decide +kernel
theorem d_Mo_run_344 : decode c_Mo_run 344 = .ok (.goto 4, 3) := by decide +kernel
theorem d_Mo_run_347 : decode c_Mo_run 347 = .ok (.iconst 0, 1) := by decide +kernel
theorem d_Mo_run_348 : decode c_Mo_run 348 = .ok (.iconst 2, 1) := by decide +kernel
theorem d_Mo_run_349 : decode c_Mo_run 349 = .ok (.invokevirtual 47, 3) := by decide +kernel
theorem d_Mo_run_352 : decode c_Mo_run 352 = .ok (.ifCond .eq 7, 3) := by decide +kernel
theorem d_Mo_run_355 : decode c_Mo_run 355 = .ok (.iconst 0, 1) := by decide +kernel
theorem d_Mo_run_356 : decode c_Mo_run 356 = .ok (.goto 7, 3) := by decide +kernel
theorem d_Mo_run_359 : decode c_Mo_run 359 = .ok (.aload_n 0, 1) := by decide +kernel
theorem d_Mo_run_360 : decode c_Mo_run 360 = .ok (.getfield 119, 3) := by decide +kernel
theorem d_Mo_run_363 : decode c_Mo_run 363 = .ok (.ireturn, 1) := by decide +kernel
theorem d_Mo_give_0 : decode c_Mo_give 0 = .ok (.aload_n 0, 1) := by decide +kernel
theorem d_Mo_give_1 : decode c_Mo_give 1 = .ok (.getfield 119, 3) := by decide +kernel
theorem d_Mo_give_4 : decode c_Mo_give 4 = .ok (.sipush 4000, 3) := by decide +kernel
theorem d_Mo_give_7 : decode c_Mo_give 7 = .ok (.if_icmp .ne 5, 3) := by decide +kernel
theorem d_Mo_give_10 : decode c_Mo_give 10 = .ok (.iconst 0, 1) := by decide +kernel
theorem d_Mo_give_11 : decode c_Mo_give 11 = .ok (.ireturn, 1) := by decide +kernel
theorem d_Mo_give_12 : decode c_Mo_give 12 = .ok (.aload_n 0, 1) := by decide +kernel
theorem d_Mo_give_13 : decode c_Mo_give 13 = .ok (.getfield 17, 3) := by decide +kernel
theorem d_Mo_give_16 : decode c_Mo_give 16 = .ok (.aload_n 0, 1) := by decide +kernel
theorem d_Mo_give_17 : decode c_Mo_give 17 = .ok (.dup, 1) := by decide +kernel
theorem d_Mo_give_18 : decode c_Mo_give 18 = .ok (.getfield 119, 3) := by decide +kernel
theorem d_Mo_give_21 : decode c_Mo_give 21 = .ok (.dup_x1, 1) := by decide +kernel
theorem d_Mo_give_22 : decode c_Mo_give 22 = .ok (.iconst 1, 1) := by decide +kernel
end
section
theorem d_Mo_give_23 : decode c_Mo_give 23 = .ok (.iadd, 1) := by decide +kernel
theorem d_Mo_give_24 : decode c_Mo_give 24 = .ok (.putfield 119, 3) := by decide +kernel
theorem d_Mo_give_27 : decode c_Mo_give 27 = .ok (.iload_n 1, 1) := by decide +kernel
theorem d_Mo_give_28 : decode c_Mo_give 28 = .ok (.iastore, 1) := by decide +kernel
theorem d_Mo_give_29 : decode c_Mo_give 29 = .ok (.iconst 1, 1) := by decide +kernel
theorem d_Mo_give_30 : decode c_Mo_give 30 = .ok (.ireturn, 1) := by decide +kernel
theorem d_Mo_pad_0 : decode c_Mo_pad 0 = .ok (.aload_n 0, 1) := by decide +kernel
theorem d_Mo_pad_1 : decode c_Mo_pad 1 = .ok (.getfield 91, 3) := by decide +kernel
theorem d_Mo_pad_4 : decode c_Mo_pad 4 = .ok (.aload_n 0, 1) := by decide +kernel
theorem d_Mo_pad_5 : decode c_Mo_pad 5 = .ok (.getfield 153, 3) := by decide +kernel
theorem d_Mo_pad_8 : decode c_Mo_pad 8 = .ok (.isub, 1) := by decide +kernel
theorem d_Mo_pad_9 : decode c_Mo_pad 9 = .ok (.aload_n 0, 1) := by decide +kernel
theorem d_Mo_pad_10 : decode c_Mo_pad 10 = .ok (.getfield 156, 3) := by decide +kernel
theorem d_Mo_pad_13 : decode c_Mo_pad 13 = .ok (.isub, 1) := by decide +kernel
theorem d_Mo_pad_14 : decode c_Mo_pad 14 = .ok (.istore_n 1, 1) := by decide +kernel
theorem d_Mo_pad_15 : decode c_Mo_pad 15 = .ok (.aload_n 0, 1) := by decide +kernel
theorem d_Mo_pad_16 : decode c_Mo_pad 16 = .ok (.getfield 69, 3) := by decide +kernel
theorem d_Mo_pad_19 : decode c_Mo_pad 19 = .ok (.ifCond .ne 34, 3) := by decide +kernel
theorem d_Mo_pad_22 : decode c_Mo_pad 22 = .ok (.aload_n 0, 1) := by decide +kernel
theorem d_Mo_pad_23 : decode c_Mo_pad 23 = .ok (.getfield 159, 3) := by decide +kernel
theorem d_Mo_pad_26 : decode c_Mo_pad 26 = .ok (.ifCond .ne 27, 3) := by decide +kernel
theorem d_Mo_pad_29 : decode c_Mo_pad 29 = .ok (.iconst 0, 1) := by decide +kernel
theorem d_Mo_pad_30 : decode c_Mo_pad 30 = .ok (.istore_n 2, 1) := by decide +kernel
theorem d_Mo_pad_31 : decode c_Mo_pad 31 = .ok (.iload_n 2, 1) := by decide +kernel
theorem d_Mo_pad_32 : decode c_Mo_pad 32 = .ok (.iload_n 1, 1) := by decide +kernel
theorem d_Mo_pad_33 : decode c_Mo_pad 33 = .ok (.if_icmp .ge 20, 3) := by decide +kernel
theorem d_Mo_pad_36 : decode c_Mo_pad 36 = .ok (.aload_n 0, 1) := by decide +kernel
theorem d_Mo_pad_37 : decode c_Mo_pad 37 = .ok (.bipush 32, 2) := by decide +kernel
theorem d_Mo_pad_39 : decode c_Mo_pad 39 = .ok (.invokevirtual 129, 3) := by decide +kernel
theorem d_Mo_pad_42 : decode c_Mo_pad 42 = .ok (.ifCond .ne 5, 3) := by decide +kernel
theorem d_Mo_pad_45 : decode c_Mo_pad 45 = .ok (.iconst 0, 1) := by decide +kernel
theorem d_Mo_pad_46 : decode c_Mo_pad 46 = .ok (.ireturn, 1) := by decide +kernel
theorem d_Mo_pad_47 : decode c_Mo_pad 47 = .ok (.iinc 2 1, 3) := by decide +kernel
theorem d_Mo_pad_50 : decode c_Mo_pad 50 = .ok (.goto (-19), 3) := by decide +kernel
theorem d_Mo_pad_53 : decode c_Mo_pad 53 = .ok (.iconst 0, 1) := by decide +kernel
theorem d_Mo_pad_54 : decode c_Mo_pad 54 = .ok (.istore_n 2, 1) := by decide +kernel
theorem d_Mo_pad_55 : decode c_Mo_pad 55 = .ok (.iload_n 2, 1) := by decide +kernel
theorem d_Mo_pad_56 : decode c_Mo_pad 56 = .ok (.aload_n 0, 1) := by decide +kernel
theorem d_Mo_pad_57 : decode c_Mo_pad 57 = .ok (.getfield 153, 3) := by decide +kernel
theorem d_Mo_pad_60 : decode c_Mo_pad 60 = .ok (.if_icmp .ge 24, 3) := by decide +kernel
theorem d_Mo_pad_63 : decode c_Mo_pad 63 = .ok (.aload_n 0, 1) := by decide +kernel
theorem d_Mo_pad_64 : decode c_Mo_pad 64 = .ok (.aload_n 0, 1) := by decide +kernel
theorem d_Mo_pad_65 : decode c_Mo_pad 65 = .ok (.getfield 24, 3) := by decide +kernel
theorem d_Mo_pad_68 : decode c_Mo_pad 68 = .ok (.iload_n 2, 1) := by decide +kernel
theorem d_Mo_pad_69 : decode c_Mo_pad 69 = .ok (.iaload, 1) := by decide +kernel
theorem d_Mo_pad_70 : decode c_Mo_pad 70 = .ok (.invokevirtual 129, 3) := by decide +kernel
theorem d_Mo_pad_73 : decode c_Mo_pad 73 = .ok (.ifCond .ne 5, 3) := by decide +kernel
theorem d_Mo_pad_76 : decode c_Mo_pad 76 = .ok (.iconst 0, 1) := by decide +kernel
theorem d_Mo_pad_77 : decode c_Mo_pad 77 = .ok (.ireturn, 1) := by decide +kernel
theorem d_Mo_pad_78 : decode c_Mo_pad 78 = .ok (.iinc 2 1, 3) := by decide +kernel
theorem d_Mo_pad_81 : decode c_Mo_pad 81 = .ok (.goto (-26), 3) := by decide +kernel
theorem d_Mo_pad_84 : decode c_Mo_pad 84 = .ok (.aload_n 0, 1) := by decide +kernel
theorem d_Mo_pad_85 : decode c_Mo_pad 85 = .ok (.getfield 69, 3) := by decide +kernel
theorem d_Mo_pad_88 : decode c_Mo_pad 88 = .ok (.ifCond .ne 34, 3) := by decide +kernel
theorem d_Mo_pad_91 : decode c_Mo_pad 91 = .ok (.aload_n 0, 1) := by decide +kernel
theorem d_Mo_pad_92 : decode c_Mo_pad 92 = .ok (.getfield 159, 3) := by decide +kernel
theorem d_Mo_pad_95 : decode c_Mo_pad 95 = .ok (.ifCond .eq 27, 3) := by decide +kernel
theorem d_Mo_pad_98 : decode c_Mo_pad 98 = .ok (.iconst 0, 1) := by decide +kernel
theorem d_Mo_pad_99 : decode c_Mo_pad 99 = .ok (.istore_n 2, 1) := by decide +kernel
theorem d_Mo_pad_100 : decode c_Mo_pad 100 = .ok (.iload_n 2, 1) := by decide +kernel
theorem d_Mo_pad_101 : decode c_Mo_pad 101 = .ok (.iload_n 1, 1) := by decide +kernel
theorem d_Mo_pad_102 : decode c_Mo_pad 102 = .ok (.if_icmp .ge 20, 3) := by decide +kernel
theorem d_Mo_pad_105 : decode c_Mo_pad 105 = .ok (.aload_n 0, 1) := by decide +kernel
theorem d_Mo_pad_106 : decode c_Mo_pad 106 = .ok (.bipush 48, 2) := by decide +kernel
theorem d_Mo_pad_108 : decode c_Mo_pad 108 = .ok (.invokevirtual 129, 3) := by decide +kernel
theorem d_Mo_pad_111 : decode c_Mo_pad 111 = .ok (.ifCond .ne 5, 3) := by decide +kernel
theorem d_Mo_pad_114 : decode c_Mo_pad 114 = .ok (.iconst 0, 1) := by decide +kernel
theorem d_Mo_pad_115 : decode c_Mo_pad 115 = .ok (.ireturn, 1) := by decide +kernel
theorem d_Mo_pad_116 : decode c_Mo_pad 116 = .ok (.iinc 2 1, 3) := by decide +kernel
theorem d_Mo_pad_119 : decode c_Mo_pad 119 = .ok (.goto (-19), 3) := by decide +kernel
theorem d_Mo_pad_122 : decode c_Mo_pad 122 = .ok (.iconst 0, 1) := by decide +kernel
theorem d_Mo_pad_123 : decode c_Mo_pad 123 = .ok (.istore_n 2, 1) := by decide +kernel
theorem d_Mo_pad_124 : decode c_Mo_pad 124 = .ok (.iload_n 2, 1) := by decide +kernel
theorem d_Mo_pad_125 : decode c_Mo_pad 125 = .ok (.aload_n 0, 1) := by decide +kernel
theorem d_Mo_pad_126 : decode c_Mo_pad 126 = .ok (.getfield 156, 3) := by decide +kernel
theorem d_Mo_pad_129 : decode c_Mo_pad 129 = .ok (.if_icmp .ge 24, 3) := by decide +kernel
theorem d_Mo_pad_132 : decode c_Mo_pad 132 = .ok (.aload_n 0, 1) := by decide +kernel
theorem d_Mo_pad_133 : decode c_Mo_pad 133 = .ok (.aload_n 0, 1) := by decide +kernel
theorem d_Mo_pad_134 : decode c_Mo_pad 134 = .ok (.getfield 27, 3) := by decide +kernel
theorem d_Mo_pad_137 : decode c_Mo_pad 137 = .ok (.iload_n 2, 1) := by decide +kernel
theorem d_Mo_pad_138 : decode c_Mo_pad 138 = .ok (.iaload, 1) := by decide +kernel
theorem d_Mo_pad_139 : decode c_Mo_pad 139 = .ok (.invokevirtual 129, 3) := by decide +kernel
theorem d_Mo_pad_142 : decode c_Mo_pad 142 = .ok (.ifCond .ne 5, 3) := by decide +kernel
theorem d_Mo_pad_145 : decode c_Mo_pad 145 = .ok (.iconst 0, 1) := by decide +kernel
theorem d_Mo_pad_146 : decode c_Mo_pad 146 = .ok (.ireturn, 1) := by decide +kernel
theorem d_Mo_pad_147 : decode c_Mo_pad 147 = .ok (.iinc 2 1, 3) := by decide +kernel
theorem d_Mo_pad_150 : decode c_Mo_pad 150 = .ok (.goto (-26), 3) := by decide +kernel
theorem d_Mo_pad_153 : decode c_Mo_pad 153 = .ok (.aload_n 0, 1) := by decide +kernel
theorem d_Mo_pad_154 : decode c_Mo_pad 154 = .ok (.getfield 69, 3) := by decide +kernel
theorem d_Mo_pad_157 : decode c_Mo_pad 157 = .ok (.ifCond .eq 27, 3) := by decide +kernel
theorem d_Mo_pad_160 : decode c_Mo_pad 160 = .ok (.iconst 0, 1) := by decide +kernel
theorem d_Mo_pad_161 : decode c_Mo_pad 161 = .ok (.istore_n 2, 1) := by decide +kernel
theorem d_Mo_pad_162 : decode c_Mo_pad 162 = .ok (.iload_n 2, 1) := by decide +kernel
theorem d_Mo_pad_163 : decode c_Mo_pad 163 = .ok (.iload_n 1, 1) := by decide +kernel
theorem d_Mo_pad_164 : decode c_Mo_pad 164 = .ok (.if_icmp .ge 20, 3) := by decide +kernel
theorem d_Mo_pad_167 : decode c_Mo_pad 167 = .ok (.aload_n 0, 1) := by decide +kernel
theorem d_Mo_pad_168 : decode c_Mo_pad 168 = .ok (.bipush 32, 2) := by decide +kernel
theorem d_Mo_pad_170 : decode c_Mo_pad 170 = .ok (.invokevirtual 129, 3) := by decide +kernel
theorem d_Mo_pad_173 : decode c_Mo_pad 173 = .ok (.ifCond .ne 5, 3) := by decide +kernel
theorem d_Mo_pad_176 : decode c_Mo_pad 176 = .ok (.iconst 0, 1) := by decide +kernel
theorem d_Mo_pad_177 : decode c_Mo_pad 177 = .ok (.ireturn, 1) := by decide +kernel
theorem d_Mo_pad_178 : decode c_Mo_pad 178 = .ok (.iinc 2 1, 3) := by decide +kernel
theorem d_Mo_pad_181 : decode c_Mo_pad 181 = .ok (.goto (-19), 3) := by decide +kernel
theorem d_Mo_pad_184 : decode c_Mo_pad 184 = .ok (.iconst 1, 1) := by decide +kernel
theorem d_Mo_pad_185 : decode c_Mo_pad 185 = .ok (.ireturn, 1) := by decide +kernel
theorem d_Mo_add_0 : decode c_Mo_add 0 = .ok (.aload_n 0, 1) := by decide +kernel
theorem d_Mo_add_1 : decode c_Mo_add 1 = .ok (.getfield 27, 3) := by decide +kernel
theorem d_Mo_add_4 : decode c_Mo_add 4 = .ok (.aload_n 0, 1) := by decide +kernel
theorem d_Mo_add_5 : decode c_Mo_add 5 = .ok (.dup, 1) := by decide +kernel
theorem d_Mo_add_6 : decode c_Mo_add 6 = .ok (.getfield 156, 3) := by decide +kernel
theorem d_Mo_add_9 : decode c_Mo_add 9 = .ok (.dup_x1, 1) := by decide +kernel
theorem d_Mo_add_10 : decode c_Mo_add 10 = .ok (.iconst 1, 1) := by decide +kernel
theorem d_Mo_add_11 : decode c_Mo_add 11 = .ok (.iadd, 1) := by decide +kernel
theorem d_Mo_add_12 : decode c_Mo_add 12 = .ok (.putfield 156, 3) := by decide +kernel
theorem d_Mo_add_15 : decode c_Mo_add 15 = .ok (.iload_n 1, 1) := by decide +kernel
theorem d_Mo_add_16 : decode c_Mo_add 16 = .ok (.iastore, 1) := by decide +kernel
theorem d_Mo_add_17 : decode c_Mo_add 17 = .ok (.return_, 1) := by decide +kernel
theorem d_Mo_piece_0 : decode c_Mo_piece 0 = .ok (.aload_n 0, 1) := by decide +kernel
theorem d_Mo_piece_1 : decode c_Mo_piece 1 = .ok (.iconst 0, 1) := by decide +kernel
theorem d_Mo_piece_2 : decode c_Mo_piece 2 = .ok (.putfield 153, 3) := by decide +kernel
theorem d_Mo_piece_5 : decode c_Mo_piece 5 = .ok (.aload_n 0, 1) := by decide +kernel
theorem d_Mo_piece_6 : decode c_Mo_piece 6 = .ok (.iconst 0, 1) := by decide +kernel
theorem d_Mo_piece_7 : decode c_Mo_piece 7 = .ok (.putfield 156, 3) := by decide +kernel
theorem d_Mo_piece_10 : decode c_Mo_piece 10 = .ok (.aload_n 0, 1) := by decide +kernel
theorem d_Mo_piece_11 : decode c_Mo_piece 11 = .ok (.iconst 0, 1) := by decide +kernel
theorem d_Mo_piece_12 : decode c_Mo_piece 12 = .ok (.putfield 159, 3) := by decide +kernel
theorem d_Mo_piece_15 : decode c_Mo_piece 15 = .ok (.iload_n 1, 1) := by decide +kernel
theorem d_Mo_piece_16 : decode c_Mo_piece 16 = .ok (.bipush 37, 2) := by decide +kernel
theorem d_Mo_piece_18 : decode c_Mo_piece 18 = .ok (.if_icmp .ne 10, 3) := by decide +kernel
theorem d_Mo_piece_21 : decode c_Mo_piece 21 = .ok (.aload_n 0, 1) := by decide +kernel
theorem d_Mo_piece_22 : decode c_Mo_piece 22 = .ok (.bipush 37, 2) := by decide +kernel
theorem d_Mo_piece_24 : decode c_Mo_piece 24 = .ok (.invokevirtual 162, 3) := by decide +kernel
theorem d_Mo_piece_27 : decode c_Mo_piece 27 = .ok (.return_, 1) := by decide +kernel
theorem d_Mo_piece_28 : decode c_Mo_piece 28 = .ok (.aload_n 0, 1) := by decide +kernel
theorem d_Mo_piece_29 : decode c_Mo_piece 29 = .ok (.invokevirtual 132, 3) := by decide +kernel
theorem d_Mo_piece_32 : decode c_Mo_piece 32 = .ok (.lstore_n 2, 1) := by decide +kernel
theorem d_Mo_piece_33 : decode c_Mo_piece 33 = .ok (.iload_n 1, 1) := by decide +kernel
theorem d_Mo_piece_34 : decode c_Mo_piece 34 = .ok (.bipush 99, 2) := by decide +kernel
theorem d_Mo_piece_36 : decode c_Mo_piece 36 = .ok (.if_icmp .ne 36, 3) := by decide +kernel
theorem d_Mo_piece_39 : decode c_Mo_piece 39 = .ok (.lload_n 2, 1) := by decide +kernel
theorem d_Mo_piece_40 : decode c_Mo_piece 40 = .ok (.l2i, 1) := by decide +kernel
theorem d_Mo_piece_41 : decode c_Mo_piece 41 = .ok (.bipush 127, 2) := by decide +kernel
theorem d_Mo_piece_43 : decode c_Mo_piece 43 = .ok (.iand, 1) := by decide +kernel
theorem d_Mo_piece_44 : decode c_Mo_piece 44 = .ok (.istore 4, 2) := by decide +kernel
theorem d_Mo_piece_46 : decode c_Mo_piece 46 = .ok (.aload_n 0, 1) := by decide +kernel
theorem d_Mo_piece_47 : decode c_Mo_piece 47 = .ok (.iload 4, 2) := by decide +kernel
theorem d_Mo_piece_49 : decode c_Mo_piece 49 = .ok (.bipush 32, 2) := by decide +kernel
theorem d_Mo_piece_51 : decode c_Mo_piece 51 = .ok (.bipush 126, 2) := by decide +kernel
theorem d_Mo_piece_53 : decode c_Mo_piece 53 = .ok (.invokestatic 61, 3) := by decide +kernel
theorem d_Mo_piece_56 : decode c_Mo_piece 56 = .ok (.ifCond .eq 8, 3) := by decide +kernel
theorem d_Mo_piece_59 : decode c_Mo_piece 59 = .ok (.iload 4, 2) := by decide +kernel
theorem d_Mo_piece_61 : decode c_Mo_piece 61 = .ok (.goto 5, 3) := by decide +kernel
theorem d_Mo_piece_64 : decode c_Mo_piece 64 = .ok (.bipush 63, 2) := by decide +kernel
theorem d_Mo_piece_66 : decode c_Mo_piece 66 = .ok (.invokevirtual 162, 3) := by decide +kernel
theorem d_Mo_piece_69 : decode c_Mo_piece 69 = .ok (.goto 54, 3) := by decide +kernel
theorem d_Mo_piece_72 : decode c_Mo_piece 72 = .ok (.iload_n 1, 1) := by decide +kernel
theorem d_Mo_piece_73 : decode c_Mo_piece 73 = .ok (.bipush 100, 2) := by decide +kernel
theorem d_Mo_piece_75 : decode c_Mo_piece 75 = .ok (.if_icmp .eq 33, 3) := by decide +kernel
theorem d_Mo_piece_78 : decode c_Mo_piece 78 = .ok (.iload_n 1, 1) := by decide +kernel
theorem d_Mo_piece_79 : decode c_Mo_piece 79 = .ok (.bipush 105, 2) := by decide +kernel
theorem d_Mo_piece_81 : decode c_Mo_piece 81 = .ok (.if_icmp .eq 27, 3) := by decide +kernel
theorem d_Mo_piece_84 : decode c_Mo_piece 84 = .ok (.iload_n 1, 1) := by decide +kernel
theorem d_Mo_piece_85 : decode c_Mo_piece 85 = .ok (.bipush 117, 2) := by decide +kernel
theorem d_Mo_piece_87 : decode c_Mo_piece 87 = .ok (.if_icmp .eq 21, 3) := by decide +kernel
theorem d_Mo_piece_90 : decode c_Mo_piece 90 = .ok (.iload_n 1, 1) := by decide +kernel
theorem d_Mo_piece_91 : decode c_Mo_piece 91 = .ok (.bipush 111, 2) := by decide +kernel
theorem d_Mo_piece_93 : decode c_Mo_piece 93 = .ok (.if_icmp .eq 15, 3) := by decide +kernel
theorem d_Mo_piece_96 : decode c_Mo_piece 96 = .ok (.iload_n 1, 1) := by decide +kernel
theorem d_Mo_piece_97 : decode c_Mo_piece 97 = .ok (.bipush 120, 2) := by decide +kernel
theorem d_Mo_piece_99 : decode c_Mo_piece 99 = .ok (.if_icmp .eq 9, 3) := by decide +kernel
theorem d_Mo_piece_102 : decode c_Mo_piece 102 = .ok (.iload_n 1, 1) := by decide +kernel
theorem d_Mo_piece_103 : decode c_Mo_piece 103 = .ok (.bipush 88, 2) := by decide +kernel
theorem d_Mo_piece_105 : decode c_Mo_piece 105 = .ok (.if_icmp .ne 12, 3) := by decide +kernel
theorem d_Mo_piece_108 : decode c_Mo_piece 108 = .ok (.aload_n 0, 1) := by decide +kernel
theorem d_Mo_piece_109 : decode c_Mo_piece 109 = .ok (.iload_n 1, 1) := by decide +kernel
theorem d_Mo_piece_110 : decode c_Mo_piece 110 = .ok (.lload_n 2, 1) := by decide +kernel
theorem d_Mo_piece_111 : decode c_Mo_piece 111 = .ok (.invokevirtual 165, 3) := by decide +kernel
theorem d_Mo_piece_114 : decode c_Mo_piece 114 = .ok (.goto 9, 3) := by decide +kernel
theorem d_Mo_piece_117 : decode c_Mo_piece 117 = .ok (.aload_n 0, 1) := by decide +kernel
theorem d_Mo_piece_118 : decode c_Mo_piece 118 = .ok (.iload_n 1, 1) := by decide +kernel
theorem d_Mo_piece_119 : decode c_Mo_piece 119 = .ok (.lload_n 2, 1) := by decide +kernel
theorem d_Mo_piece_120 : decode c_Mo_piece 120 = .ok (.invokevirtual 169, 3) := by decide +kernel
theorem d_Mo_piece_123 : decode c_Mo_piece 123 = .ok (.return_, 1) := by decide +kernel
theorem d_Mo_sign_0 : decode c_Mo_sign 0 = .ok (.iload_n 1, 1) := by decide +kernel
theorem d_Mo_sign_1 : decode c_Mo_sign 1 = .ok (.ifCond .eq 24, 3) := by decide +kernel
theorem d_Mo_sign_4 : decode c_Mo_sign 4 = .ok (.aload_n 0, 1) := by decide +kernel
theorem d_Mo_sign_5 : decode c_Mo_sign 5 = .ok (.getfield 24, 3) := by decide +kernel
theorem d_Mo_sign_8 : decode c_Mo_sign 8 = .ok (.aload_n 0, 1) := by decide +kernel
theorem d_Mo_sign_9 : decode c_Mo_sign 9 = .ok (.dup, 1) := by decide +kernel
theorem d_Mo_sign_10 : decode c_Mo_sign 10 = .ok (.getfield 153, 3) := by decide +kernel
theorem d_Mo_sign_13 : decode c_Mo_sign 13 = .ok (.dup_x1, 1) := by decide +kernel
theorem d_Mo_sign_14 : decode c_Mo_sign 14 = .ok (.iconst 1, 1) := by decide +kernel
theorem d_Mo_sign_15 : decode c_Mo_sign 15 = .ok (.iadd, 1) := by decide +kernel
theorem d_Mo_sign_16 : decode c_Mo_sign 16 = .ok (.putfield 153, 3) := by decide +kernel
theorem d_Mo_sign_19 : decode c_Mo_sign 19 = .ok (.bipush 45, 2) := by decide +kernel
theorem d_Mo_sign_21 : decode c_Mo_sign 21 = .ok (.iastore, 1) := by decide +kernel
theorem d_Mo_sign_22 : decode c_Mo_sign 22 = .ok (.goto 56, 3) := by decide +kernel
theorem d_Mo_sign_25 : decode c_Mo_sign 25 = .ok (.aload_n 0, 1) := by decide +kernel
theorem d_Mo_sign_26 : decode c_Mo_sign 26 = .ok (.getfield 73, 3) := by decide +kernel
theorem d_Mo_sign_29 : decode c_Mo_sign 29 = .ok (.ifCond .eq 24, 3) := by decide +kernel
theorem d_Mo_sign_32 : decode c_Mo_sign 32 = .ok (.aload_n 0, 1) := by decide +kernel
theorem d_Mo_sign_33 : decode c_Mo_sign 33 = .ok (.getfield 24, 3) := by decide +kernel
theorem d_Mo_sign_36 : decode c_Mo_sign 36 = .ok (.aload_n 0, 1) := by decide +kernel
theorem d_Mo_sign_37 : decode c_Mo_sign 37 = .ok (.dup, 1) := by decide +kernel
theorem d_Mo_sign_38 : decode c_Mo_sign 38 = .ok (.getfield 153, 3) := by decide +kernel
theorem d_Mo_sign_41 : decode c_Mo_sign 41 = .ok (.dup_x1, 1) := by decide +kernel
theorem d_Mo_sign_42 : decode c_Mo_sign 42 = .ok (.iconst 1, 1) := by decide +kernel
theorem d_Mo_sign_43 : decode c_Mo_sign 43 = .ok (.iadd, 1) := by decide +kernel
theorem d_Mo_sign_44 : decode c_Mo_sign 44 = .ok (.putfield 153, 3) := by decide +kernel
theorem d_Mo_sign_47 : decode c_Mo_sign 47 = .ok (.bipush 43, 2) := by decide +kernel
theorem d_Mo_sign_49 : decode c_Mo_sign 49 = .ok (.iastore, 1) := by decide +kernel
theorem d_Mo_sign_50 : decode c_Mo_sign 50 = .ok (.goto 28, 3) := by decide +kernel
theorem d_Mo_sign_53 : decode c_Mo_sign 53 = .ok (.aload_n 0, 1) := by decide +kernel
theorem d_Mo_sign_54 : decode c_Mo_sign 54 = .ok (.getfield 76, 3) := by decide +kernel
theorem d_Mo_sign_57 : decode c_Mo_sign 57 = .ok (.ifCond .eq 21, 3) := by decide +kernel
theorem d_Mo_sign_60 : decode c_Mo_sign 60 = .ok (.aload_n 0, 1) := by decide +kernel
theorem d_Mo_sign_61 : decode c_Mo_sign 61 = .ok (.getfield 24, 3) := by decide +kernel
theorem d_Mo_sign_64 : decode c_Mo_sign 64 = .ok (.aload_n 0, 1) := by decide +kernel
theorem d_Mo_sign_65 : decode c_Mo_sign 65 = .ok (.dup, 1) := by decide +kernel
theorem d_Mo_sign_66 : decode c_Mo_sign 66 = .ok (.getfield 153, 3) := by decide +kernel
theorem d_Mo_sign_69 : decode c_Mo_sign 69 = .ok (.dup_x1, 1) := by decide +kernel
theorem d_Mo_sign_70 : decode c_Mo_sign 70 = .ok (.iconst 1, 1) := by decide +kernel
theorem d_Mo_sign_71 : decode c_Mo_sign 71 = .ok (.iadd, 1) := by decide +kernel
theorem d_Mo_sign_72 : decode c_Mo_sign 72 = .ok (.putfield 153, 3) := by decide +kernel
theorem d_Mo_sign_75 : decode c_Mo_sign 75 = .ok (.bipush 32, 2) := by decide +kernel
theorem d_Mo_sign_77 : decode c_Mo_sign 77 = .ok (.iastore, 1) := by decide +kernel
theorem d_Mo_sign_78 : decode c_Mo_sign 78 = .ok (.return_, 1) := by decide +kernel
theorem d_Mo_digit_0 : decode c_Mo_digit 0 = .ok (.iload_n 0, 1) := by decide +kernel
theorem d_Mo_digit_1 : decode c_Mo_digit 1 = .ok (.bipush 10, 2) := by decide +kernel
theorem d_Mo_digit_3 : decode c_Mo_digit 3 = .ok (.if_icmp .ge 10, 3) := by decide +kernel
theorem d_Mo_digit_6 : decode c_Mo_digit 6 = .ok (.bipush 48, 2) := by decide +kernel
theorem d_Mo_digit_8 : decode c_Mo_digit 8 = .ok (.iload_n 0, 1) := by decide +kernel
theorem d_Mo_digit_9 : decode c_Mo_digit 9 = .ok (.iadd, 1) := by decide +kernel
theorem d_Mo_digit_10 : decode c_Mo_digit 10 = .ok (.goto 19, 3) := by decide +kernel
theorem d_Mo_digit_13 : decode c_Mo_digit 13 = .ok (.iload_n 1, 1) := by decide +kernel
theorem d_Mo_digit_14 : decode c_Mo_digit 14 = .ok (.ifCond .eq 8, 3) := by decide +kernel
theorem d_Mo_digit_17 : decode c_Mo_digit 17 = .ok (.bipush 65, 2) := by decide +kernel
theorem d_Mo_digit_19 : decode c_Mo_digit 19 = .ok (.goto 5, 3) := by decide +kernel
theorem d_Mo_digit_22 : decode c_Mo_digit 22 = .ok (.bipush 97, 2) := by decide +kernel
theorem d_Mo_digit_24 : decode c_Mo_digit 24 = .ok (.iload_n 0, 1) := by decide +kernel
theorem d_Mo_digit_25 : decode c_Mo_digit 25 = .ok (.iadd, 1) := by decide +kernel
theorem d_Mo_digit_26 : decode c_Mo_digit 26 = .ok (.bipush 10, 2) := by decide +kernel
theorem d_Mo_digit_28 : decode c_Mo_digit 28 = .ok (.isub, 1) := by decide +kernel
theorem d_Mo_digit_29 : decode c_Mo_digit 29 = .ok (.ireturn, 1) := by decide +kernel
theorem d_Mo_whole_0 : decode c_Mo_whole 0 = .ok (.iload_n 1, 1) := by decide +kernel
theorem d_Mo_whole_1 : decode c_Mo_whole 1 = .ok (.bipush 100, 2) := by decide +kernel
theorem d_Mo_whole_3 : decode c_Mo_whole 3 = .ok (.if_icmp .eq 9, 3) := by decide +kernel
theorem d_Mo_whole_6 : decode c_Mo_whole 6 = .ok (.iload_n 1, 1) := by decide +kernel
theorem d_Mo_whole_7 : decode c_Mo_whole 7 = .ok (.bipush 105, 2) := by decide +kernel
theorem d_Mo_whole_9 : decode c_Mo_whole 9 = .ok (.if_icmp .ne 7, 3) := by decide +kernel
theorem d_Mo_whole_12 : decode c_Mo_whole 12 = .ok (.iconst 1, 1) := by decide +kernel
theorem d_Mo_whole_13 : decode c_Mo_whole 13 = .ok (.goto 4, 3) := by decide +kernel
theorem d_Mo_whole_16 : decode c_Mo_whole 16 = .ok (.iconst 0, 1) := by decide +kernel
theorem d_Mo_whole_17 : decode c_Mo_whole 17 = .ok (.istore 4, 2) := by decide +kernel
theorem d_Mo_whole_19 : decode c_Mo_whole 19 = .ok (.iload 4, 2) := by decide +kernel
theorem d_Mo_whole_21 : decode c_Mo_whole 21 = .ok (.ifCond .eq 13, 3) := by decide +kernel
theorem d_Mo_whole_24 : decode c_Mo_whole 24 = .ok (.lload_n 2, 1) := by decide +kernel
theorem d_Mo_whole_25 : decode c_Mo_whole 25 = .ok (.lconst 0, 1) := by decide +kernel
theorem d_Mo_whole_26 : decode c_Mo_whole 26 = .ok (.lcmp, 1) := by decide +kernel
theorem d_Mo_whole_27 : decode c_Mo_whole 27 = .ok (.ifCond .ge 7, 3) := by decide +kernel
theorem d_Mo_whole_30 : decode c_Mo_whole 30 = .ok (.iconst 1, 1) := by decide +kernel
theorem d_Mo_whole_31 : decode c_Mo_whole 31 = .ok (.goto 4, 3) := by decide +kernel
theorem d_Mo_whole_34 : decode c_Mo_whole 34 = .ok (.iconst 0, 1) := by decide +kernel
theorem d_Mo_whole_35 : decode c_Mo_whole 35 = .ok (.istore 5, 2) := by decide +kernel
theorem d_Mo_whole_37 : decode c_Mo_whole 37 = .ok (.iload_n 1, 1) := by decide +kernel
theorem d_Mo_whole_38 : decode c_Mo_whole 38 = .ok (.bipush 111, 2) := by decide +kernel
theorem d_Mo_whole_40 : decode c_Mo_whole 40 = .ok (.if_icmp .ne 8, 3) := by decide +kernel
theorem d_Mo_whole_43 : decode c_Mo_whole 43 = .ok (.bipush 8, 2) := by decide +kernel
theorem d_Mo_whole_45 : decode c_Mo_whole 45 = .ok (.goto 22, 3) := by decide +kernel
theorem d_Mo_whole_48 : decode c_Mo_whole 48 = .ok (.iload_n 1, 1) := by decide +kernel
theorem d_Mo_whole_49 : decode c_Mo_whole 49 = .ok (.bipush 120, 2) := by decide +kernel
theorem d_Mo_whole_51 : decode c_Mo_whole 51 = .ok (.if_icmp .eq 9, 3) := by decide +kernel
theorem d_Mo_whole_54 : decode c_Mo_whole 54 = .ok (.iload_n 1, 1) := by decide +kernel
theorem d_Mo_whole_55 : decode c_Mo_whole 55 = .ok (.bipush 88, 2) := by decide +kernel
theorem d_Mo_whole_57 : decode c_Mo_whole 57 = .ok (.if_icmp .ne 8, 3) := by decide +kernel
theorem d_Mo_whole_60 : decode c_Mo_whole 60 = .ok (.bipush 16, 2) := by decide +kernel
theorem d_Mo_whole_62 : decode c_Mo_whole 62 = .ok (.goto 5, 3) := by decide +kernel
theorem d_Mo_whole_65 : decode c_Mo_whole 65 = .ok (.bipush 10, 2) := by decide +kernel
theorem d_Mo_whole_67 : decode c_Mo_whole 67 = .ok (.istore 6, 2) := by decide +kernel
theorem d_Mo_whole_69 : decode c_Mo_whole 69 = .ok (.iconst 0, 1) := by decide +kernel
theorem d_Mo_whole_70 : decode c_Mo_whole 70 = .ok (.istore 7, 2) := by decide +kernel
theorem d_Mo_whole_72 : decode c_Mo_whole 72 = .ok (.iload 5, 2) := by decide +kernel
theorem d_Mo_whole_74 : decode c_Mo_whole 74 = .ok (.ifCond .eq 8, 3) := by decide +kernel
theorem d_Mo_whole_77 : decode c_Mo_whole 77 = .ok (.lload_n 2, 1) := by decide +kernel
theorem d_Mo_whole_78 : decode c_Mo_whole 78 = .ok (.lneg, 1) := by decide +kernel
theorem d_Mo_whole_79 : decode c_Mo_whole 79 = .ok (.goto 4, 3) := by decide +kernel
theorem d_Mo_whole_82 : decode c_Mo_whole 82 = .ok (.lload_n 2, 1) := by decide +kernel
theorem d_Mo_whole_83 : decode c_Mo_whole 83 = .ok (.lstore 8, 2) := by decide +kernel
theorem d_Mo_whole_85 : decode c_Mo_whole 85 = .ok (.lload 8, 2) := by decide +kernel
theorem d_Mo_whole_87 : decode c_Mo_whole 87 = .ok (.lconst 0, 1) := by decide +kernel
theorem d_Mo_whole_88 : decode c_Mo_whole 88 = .ok (.lcmp, 1) := by decide +kernel
theorem d_Mo_whole_89 : decode c_Mo_whole 89 = .ok (.ifCond .eq 35, 3) := by decide +kernel
theorem d_Mo_whole_92 : decode c_Mo_whole 92 = .ok (.aload_n 0, 1) := by decide +kernel
theorem d_Mo_whole_93 : decode c_Mo_whole 93 = .ok (.getfield 30, 3) := by decide +kernel
theorem d_Mo_whole_96 : decode c_Mo_whole 96 = .ok (.iload 7, 2) := by decide +kernel
theorem d_Mo_whole_98 : decode c_Mo_whole 98 = .ok (.iinc 7 1, 3) := by decide +kernel
theorem d_Mo_whole_101 : decode c_Mo_whole 101 = .ok (.lload 8, 2) := by decide +kernel
theorem d_Mo_whole_103 : decode c_Mo_whole 103 = .ok (.iload 6, 2) := by decide +kernel
theorem d_Mo_whole_105 : decode c_Mo_whole 105 = .ok (.i2l, 1) := by decide +kernel
theorem d_Mo_whole_106 : decode c_Mo_whole 106 = .ok (.invokestatic 172, 3) := by decide +kernel
theorem d_Mo_whole_109 : decode c_Mo_whole 109 = .ok (.l2i, 1) := by decide +kernel
theorem d_Mo_whole_110 : decode c_Mo_whole 110 = .ok (.iastore, 1) := by decide +kernel
theorem d_Mo_whole_111 : decode c_Mo_whole 111 = .ok (.lload 8, 2) := by decide +kernel
theorem d_Mo_whole_113 : decode c_Mo_whole 113 = .ok (.iload 6, 2) := by decide +kernel
theorem d_Mo_whole_115 : decode c_Mo_whole 115 = .ok (.i2l, 1) := by decide +kernel
theorem d_Mo_whole_116 : decode c_Mo_whole 116 = .ok (.invokestatic 178, 3) := by decide +kernel
theorem d_Mo_whole_119 : decode c_Mo_whole 119 = .ok (.lstore 8, 2) := by decide +kernel
theorem d_Mo_whole_121 : decode c_Mo_whole 121 = .ok (.goto (-36), 3) := by decide +kernel
theorem d_Mo_whole_124 : decode c_Mo_whole 124 = .ok (.aload_n 0, 1) := by decide +kernel
theorem d_Mo_whole_125 : decode c_Mo_whole 125 = .ok (.getfield 94, 3) := by decide +kernel
theorem d_Mo_whole_128 : decode c_Mo_whole 128 = .ok (.ifCond .ge 7, 3) := by decide +kernel
theorem d_Mo_whole_131 : decode c_Mo_whole 131 = .ok (.iconst 1, 1) := by decide +kernel
theorem d_Mo_whole_132 : decode c_Mo_whole 132 = .ok (.goto 7, 3) := by decide +kernel
theorem d_Mo_whole_135 : decode c_Mo_whole 135 = .ok (.aload_n 0, 1) := by decide +kernel
theorem d_Mo_whole_136 : decode c_Mo_whole 136 = .ok (.getfield 94, 3) := by decide +kernel
theorem d_Mo_whole_139 : decode c_Mo_whole 139 = .ok (.istore 10, 2) := by decide +kernel
theorem d_Mo_whole_141 : decode c_Mo_whole 141 = .ok (.iload 4, 2) := by decide +kernel
theorem d_Mo_whole_143 : decode c_Mo_whole 143 = .ok (.ifCond .eq 9, 3) := by decide +kernel
theorem d_Mo_whole_146 : decode c_Mo_whole 146 = .ok (.aload_n 0, 1) := by decide +kernel
theorem d_Mo_whole_147 : decode c_Mo_whole 147 = .ok (.iload 5, 2) := by decide +kernel
theorem d_Mo_whole_149 : decode c_Mo_whole 149 = .ok (.invokevirtual 181, 3) := by decide +kernel
theorem d_Mo_whole_152 : decode c_Mo_whole 152 = .ok (.aload_n 0, 1) := by decide +kernel
theorem d_Mo_whole_153 : decode c_Mo_whole 153 = .ok (.getfield 79, 3) := by decide +kernel
theorem d_Mo_whole_156 : decode c_Mo_whole 156 = .ok (.ifCond .eq 51, 3) := by decide +kernel
theorem d_Mo_whole_159 : decode c_Mo_whole 159 = .ok (.iload 6, 2) := by decide +kernel
theorem d_Mo_whole_161 : decode c_Mo_whole 161 = .ok (.bipush 16, 2) := by decide +kernel
theorem d_Mo_whole_163 : decode c_Mo_whole 163 = .ok (.if_icmp .ne 44, 3) := by decide +kernel
theorem d_Mo_whole_166 : decode c_Mo_whole 166 = .ok (.lload_n 2, 1) := by decide +kernel
theorem d_Mo_whole_167 : decode c_Mo_whole 167 = .ok (.lconst 0, 1) := by decide +kernel
theorem d_Mo_whole_168 : decode c_Mo_whole 168 = .ok (.lcmp, 1) := by decide +kernel
theorem d_Mo_whole_169 : decode c_Mo_whole 169 = .ok (.ifCond .eq 38, 3) := by decide +kernel
theorem d_Mo_whole_172 : decode c_Mo_whole 172 = .ok (.aload_n 0, 1) := by decide +kernel
theorem d_Mo_whole_173 : decode c_Mo_whole 173 = .ok (.getfield 24, 3) := by decide +kernel
theorem d_Mo_whole_176 : decode c_Mo_whole 176 = .ok (.aload_n 0, 1) := by decide +kernel
theorem d_Mo_whole_177 : decode c_Mo_whole 177 = .ok (.dup, 1) := by decide +kernel
theorem d_Mo_whole_178 : decode c_Mo_whole 178 = .ok (.getfield 153, 3) := by decide +kernel
theorem d_Mo_whole_181 : decode c_Mo_whole 181 = .ok (.dup_x1, 1) := by decide +kernel
theorem d_Mo_whole_182 : decode c_Mo_whole 182 = .ok (.iconst 1, 1) := by decide +kernel
theorem d_Mo_whole_183 : decode c_Mo_whole 183 = .ok (.iadd, 1) := by decide +kernel
theorem d_Mo_whole_184 : decode c_Mo_whole 184 = .ok (.putfield 153, 3) := by decide +kernel
theorem d_Mo_whole_187 : decode c_Mo_whole 187 = .ok (.bipush 48, 2) := by decide +kernel
theorem d_Mo_whole_189 : decode c_Mo_whole 189 = .ok (.iastore, 1) := by decide +kernel
theorem d_Mo_whole_190 : decode c_Mo_whole 190 = .ok (.aload_n 0, 1) := by decide +kernel
theorem d_Mo_whole_191 : decode c_Mo_whole 191 = .ok (.getfield 24, 3) := by decide +kernel
theorem d_Mo_whole_194 : decode c_Mo_whole 194 = .ok (.aload_n 0, 1) := by decide +kernel
theorem d_Mo_whole_195 : decode c_Mo_whole 195 = .ok (.dup, 1) := by decide +kernel
theorem d_Mo_whole_196 : decode c_Mo_whole 196 = .ok (.getfield 153, 3) := by decide +kernel
theorem d_Mo_whole_199 : decode c_Mo_whole 199 = .ok (.dup_x1, 1) := by decide +kernel
theorem d_Mo_whole_200 : decode c_Mo_whole 200 = .ok (.iconst 1, 1) := by decide +kernel
theorem d_Mo_whole_201 : decode c_Mo_whole 201 = .ok (.iadd, 1) := by decide +kernel
theorem d_Mo_whole_202 : decode c_Mo_whole 202 = .ok (.putfield 153, 3) := by decide +kernel
theorem d_Mo_whole_205 : decode c_Mo_whole 205 = .ok (.iload_n 1, 1) := by decide +kernel
theorem d_Mo_whole_206 : decode c_Mo_whole 206 = .ok (.iastore, 1) := by decide +kernel
theorem d_Mo_whole_207 : decode c_Mo_whole 207 = .ok (.iload 7, 2) := by decide +kernel
theorem d_Mo_whole_209 : decode c_Mo_whole 209 = .ok (.istore 11, 2) := by decide +kernel
theorem d_Mo_whole_211 : decode c_Mo_whole 211 = .ok (.iload 11, 2) := by decide +kernel
theorem d_Mo_whole_213 : decode c_Mo_whole 213 = .ok (.iload 10, 2) := by decide +kernel
theorem d_Mo_whole_215 : decode c_Mo_whole 215 = .ok (.if_icmp .ge 15, 3) := by decide +kernel
theorem d_Mo_whole_218 : decode c_Mo_whole 218 = .ok (.aload_n 0, 1) := by decide +kernel
theorem d_Mo_whole_219 : decode c_Mo_whole 219 = .ok (.bipush 48, 2) := by decide +kernel
theorem d_Mo_whole_221 : decode c_Mo_whole 221 = .ok (.invokevirtual 162, 3) := by decide +kernel
theorem d_Mo_whole_224 : decode c_Mo_whole 224 = .ok (.iinc 11 1, 3) := by decide +kernel
theorem d_Mo_whole_227 : decode c_Mo_whole 227 = .ok (.goto (-16), 3) := by decide +kernel
theorem d_Mo_whole_230 : decode c_Mo_whole 230 = .ok (.iload 7, 2) := by decide +kernel
theorem d_Mo_whole_232 : decode c_Mo_whole 232 = .ok (.iconst 1, 1) := by decide +kernel
theorem d_Mo_whole_233 : decode c_Mo_whole 233 = .ok (.isub, 1) := by decide +kernel
theorem d_Mo_whole_234 : decode c_Mo_whole 234 = .ok (.istore 11, 2) := by decide +kernel
theorem d_Mo_whole_236 : decode c_Mo_whole 236 = .ok (.iload 11, 2) := by decide +kernel
theorem d_Mo_whole_238 : decode c_Mo_whole 238 = .ok (.ifCond .lt 34, 3) := by decide +kernel
theorem d_Mo_whole_241 : decode c_Mo_whole 241 = .ok (.aload_n 0, 1) := by decide +kernel
theorem d_Mo_whole_242 : decode c_Mo_whole 242 = .ok (.aload_n 0, 1) := by decide +kernel
theorem d_Mo_whole_243 : decode c_Mo_whole 243 = .ok (.getfield 30, 3) := by decide +kernel
theorem d_Mo_whole_246 : decode c_Mo_whole 246 = .ok (.iload 11, 2) := by decide +kernel
theorem d_Mo_whole_248 : decode c_Mo_whole 248 = .ok (.iaload, 1) := by decide +kernel
theorem d_Mo_whole_249 : decode c_Mo_whole 249 = .ok (.iload_n 1, 1) := by decide +kernel
theorem d_Mo_whole_250 : decode c_Mo_whole 250 = .ok (.bipush 88, 2) := by decide +kernel
theorem d_Mo_whole_252 : decode c_Mo_whole 252 = .ok (.if_icmp .ne 7, 3) := by decide +kernel
theorem d_Mo_whole_255 : decode c_Mo_whole 255 = .ok (.iconst 1, 1) := by decide +kernel
theorem d_Mo_whole_256 : decode c_Mo_whole 256 = .ok (.goto 4, 3) := by decide +kernel
theorem d_Mo_whole_259 : decode c_Mo_whole 259 = .ok (.iconst 0, 1) := by decide +kernel
theorem d_Mo_whole_260 : decode c_Mo_whole 260 = .ok (.invokestatic 185, 3) := by decide +kernel
theorem d_Mo_whole_263 : decode c_Mo_whole 263 = .ok (.invokevirtual 162, 3) := by decide +kernel
theorem d_Mo_whole_266 : decode c_Mo_whole 266 = .ok (.iinc 11 (-1), 3) := by decide +kernel
theorem d_Mo_whole_269 : decode c_Mo_whole 269 = .ok (.goto (-33), 3) := by decide +kernel
theorem d_Mo_whole_272 : decode c_Mo_whole 272 = .ok (.aload_n 0, 1) := by decide +kernel
theorem d_Mo_whole_273 : decode c_Mo_whole 273 = .ok (.getfield 79, 3) := by decide +kernel
theorem d_Mo_whole_276 : decode c_Mo_whole 276 = .ok (.ifCond .eq 79, 3) := by decide +kernel
theorem d_Mo_whole_279 : decode c_Mo_whole 279 = .ok (.iload 6, 2) := by decide +kernel
theorem d_Mo_whole_281 : decode c_Mo_whole 281 = .ok (.bipush 8, 2) := by decide +kernel
theorem d_Mo_whole_283 : decode c_Mo_whole 283 = .ok (.if_icmp .ne 72, 3) := by decide +kernel
theorem d_Mo_whole_286 : decode c_Mo_whole 286 = .ok (.aload_n 0, 1) := by decide +kernel
theorem d_Mo_whole_287 : decode c_Mo_whole 287 = .ok (.getfield 156, 3) := by decide +kernel
theorem d_Mo_whole_290 : decode c_Mo_whole 290 = .ok (.ifCond .eq 14, 3) := by decide +kernel
theorem d_Mo_whole_293 : decode c_Mo_whole 293 = .ok (.aload_n 0, 1) := by decide +kernel
theorem d_Mo_whole_294 : decode c_Mo_whole 294 = .ok (.getfield 27, 3) := by decide +kernel
theorem d_Mo_whole_297 : decode c_Mo_whole 297 = .ok (.iconst 0, 1) := by decide +kernel
theorem d_Mo_whole_298 : decode c_Mo_whole 298 = .ok (.iaload, 1) := by decide +kernel
theorem d_Mo_whole_299 : decode c_Mo_whole 299 = .ok (.bipush 48, 2) := by decide +kernel
theorem d_Mo_whole_301 : decode c_Mo_whole 301 = .ok (.if_icmp .eq 54, 3) := by decide +kernel
theorem d_Mo_whole_304 : decode c_Mo_whole 304 = .ok (.aload_n 0, 1) := by decide +kernel
theorem d_Mo_whole_305 : decode c_Mo_whole 305 = .ok (.getfield 156, 3) := by decide +kernel
theorem d_Mo_whole_308 : decode c_Mo_whole 308 = .ok (.istore 11, 2) := by decide +kernel
theorem d_Mo_whole_310 : decode c_Mo_whole 310 = .ok (.iload 11, 2) := by decide +kernel
theorem d_Mo_whole_312 : decode c_Mo_whole 312 = .ok (.ifCond .le 25, 3) := by decide +kernel
theorem d_Mo_whole_315 : decode c_Mo_whole 315 = .ok (.aload_n 0, 1) := by decide +kernel
theorem d_Mo_whole_316 : decode c_Mo_whole 316 = .ok (.getfield 27, 3) := by decide +kernel
theorem d_Mo_whole_319 : decode c_Mo_whole 319 = .ok (.iload 11, 2) := by decide +kernel
theorem d_Mo_whole_321 : decode c_Mo_whole 321 = .ok (.aload_n 0, 1) := by decide +kernel
theorem d_Mo_whole_322 : decode c_Mo_whole 322 = .ok (.getfield 27, 3) := by decide +kernel
theorem d_Mo_whole_325 : decode c_Mo_whole 325 = .ok (.iload 11, 2) := by decide +kernel
theorem d_Mo_whole_327 : decode c_Mo_whole 327 = .ok (.iconst 1, 1) := by decide +kernel
theorem d_Mo_whole_328 : decode c_Mo_whole 328 = .ok (.isub, 1) := by decide +kernel
theorem d_Mo_whole_329 : decode c_Mo_whole 329 = .ok (.iaload, 1) := by decide +kernel
theorem d_Mo_whole_330 : decode c_Mo_whole 330 = .ok (.iastore, 1) := by decide +kernel
theorem d_Mo_whole_331 : decode c_Mo_whole 331 = .ok (.iinc 11 (-1), 3) := by decide +kernel
theorem d_Mo_whole_334 : decode c_Mo_whole 334 = .ok (.goto (-24), 3) := by decide +kernel
theorem d_Mo_whole_337 : decode c_Mo_whole 337 = .ok (.aload_n 0, 1) := by decide +kernel
theorem d_Mo_whole_338 : decode c_Mo_whole 338 = .ok (.getfield 27, 3) := by decide +kernel
theorem d_Mo_whole_341 : decode c_Mo_whole 341 = .ok (.iconst 0, 1) := by decide +kernel
theorem d_Mo_whole_342 : decode c_Mo_whole 342 = .ok (.bipush 48, 2) := by decide +kernel
theorem d_Mo_whole_344 : decode c_Mo_whole 344 = .ok (.iastore, 1) := by decide +kernel
theorem d_Mo_whole_345 : decode c_Mo_whole 345 = .ok (.aload_n 0, 1) := by decide +kernel
theorem d_Mo_whole_346 : decode c_Mo_whole 346 = .ok (.dup, 1) := by decide +kernel
theorem d_Mo_whole_347 : decode c_Mo_whole 347 = .ok (.getfield 156, 3) := by decide +kernel
theorem d_Mo_whole_350 : decode c_Mo_whole 350 = .ok (.iconst 1, 1) := by decide +kernel
theorem d_Mo_whole_351 : decode c_Mo_whole 351 = .ok (.iadd, 1) := by decide +kernel
theorem d_Mo_whole_352 : decode c_Mo_whole 352 = .ok (.putfield 156, 3) := by decide +kernel
theorem d_Mo_whole_355 : decode c_Mo_whole 355 = .ok (.aload_n 0, 1) := by decide +kernel
theorem d_Mo_whole_356 : decode c_Mo_whole 356 = .ok (.aload_n 0, 1) := by decide +kernel
theorem d_Mo_whole_357 : decode c_Mo_whole 357 = .ok (.getfield 82, 3) := by decide +kernel
theorem d_Mo_whole_360 : decode c_Mo_whole 360 = .ok (.ifCond .eq 21, 3) := by decide +kernel
theorem d_Mo_whole_363 : decode c_Mo_whole 363 = .ok (.aload_n 0, 1) := by decide +kernel
theorem d_Mo_whole_364 : decode c_Mo_whole 364 = .ok (.getfield 69, 3) := by decide +kernel
theorem d_Mo_whole_367 : decode c_Mo_whole 367 = .ok (.ifCond .ne 14, 3) := by decide +kernel
theorem d_Mo_whole_370 : decode c_Mo_whole 370 = .ok (.aload_n 0, 1) := by decide +kernel
theorem d_Mo_whole_371 : decode c_Mo_whole 371 = .ok (.getfield 94, 3) := by decide +kernel
theorem d_Mo_whole_374 : decode c_Mo_whole 374 = .ok (.ifCond .ge 7, 3) := by decide +kernel
theorem d_Mo_whole_377 : decode c_Mo_whole 377 = .ok (.iconst 1, 1) := by decide +kernel
theorem d_Mo_whole_378 : decode c_Mo_whole 378 = .ok (.goto 4, 3) := by decide +kernel
theorem d_Mo_whole_381 : decode c_Mo_whole 381 = .ok (.iconst 0, 1) := by decide +kernel
theorem d_Mo_whole_382 : decode c_Mo_whole 382 = .ok (.putfield 159, 3) := by decide +kernel
theorem d_Mo_whole_385 : decode c_Mo_whole 385 = .ok (.return_, 1) := by decide +kernel
theorem d_Mo_decimal_0 : decode c_Mo_decimal 0 = .ok (.iconst 0, 1) := by decide +kernel
theorem d_Mo_decimal_1 : decode c_Mo_decimal 1 = .ok (.istore 4, 2) := by decide +kernel
theorem d_Mo_decimal_3 : decode c_Mo_decimal 3 = .ok (.lload_n 1, 1) := by decide +kernel
theorem d_Mo_decimal_4 : decode c_Mo_decimal 4 = .ok (.lstore 5, 2) := by decide +kernel
theorem d_Mo_decimal_6 : decode c_Mo_decimal 6 = .ok (.lload 5, 2) := by decide +kernel
theorem d_Mo_decimal_8 : decode c_Mo_decimal 8 = .ok (.lconst 0, 1) := by decide +kernel
theorem d_Mo_decimal_9 : decode c_Mo_decimal 9 = .ok (.lcmp, 1) := by decide +kernel
theorem d_Mo_decimal_10 : decode c_Mo_decimal 10 = .ok (.ifCond .le 31, 3) := by decide +kernel
theorem d_Mo_decimal_13 : decode c_Mo_decimal 13 = .ok (.aload_n 0, 1) := by decide +kernel
theorem d_Mo_decimal_14 : decode c_Mo_decimal 14 = .ok (.getfield 33, 3) := by decide +kernel
theorem d_Mo_decimal_17 : decode c_Mo_decimal 17 = .ok (.iload 4, 2) := by decide +kernel
theorem d_Mo_decimal_19 : decode c_Mo_decimal 19 = .ok (.iinc 4 1, 3) := by decide +kernel
theorem d_Mo_decimal_22 : decode c_Mo_decimal 22 = .ok (.lload 5, 2) := by decide +kernel
theorem d_Mo_decimal_24 : decode c_Mo_decimal 24 = .ok (.ldc2_w 189, 3) := by decide +kernel
theorem d_Mo_decimal_27 : decode c_Mo_decimal 27 = .ok (.lrem, 1) := by decide +kernel
theorem d_Mo_decimal_28 : decode c_Mo_decimal 28 = .ok (.l2i, 1) := by decide +kernel
theorem d_Mo_decimal_29 : decode c_Mo_decimal 29 = .ok (.iastore, 1) := by decide +kernel
theorem d_Mo_decimal_30 : decode c_Mo_decimal 30 = .ok (.lload 5, 2) := by decide +kernel
theorem d_Mo_decimal_32 : decode c_Mo_decimal 32 = .ok (.ldc2_w 189, 3) := by decide +kernel
theorem d_Mo_decimal_35 : decode c_Mo_decimal 35 = .ok (.ldiv, 1) := by decide +kernel
theorem d_Mo_decimal_36 : decode c_Mo_decimal 36 = .ok (.lstore 5, 2) := by decide +kernel
theorem d_Mo_decimal_38 : decode c_Mo_decimal 38 = .ok (.goto (-32), 3) := by decide +kernel
theorem d_Mo_decimal_41 : decode c_Mo_decimal 41 = .ok (.iload_n 3, 1) := by decide +kernel
theorem d_Mo_decimal_42 : decode c_Mo_decimal 42 = .ok (.ifCond .ge 7, 3) := by decide +kernel
theorem d_Mo_decimal_45 : decode c_Mo_decimal 45 = .ok (.iconst 5, 1) := by decide +kernel
theorem d_Mo_decimal_46 : decode c_Mo_decimal 46 = .ok (.goto 4, 3) := by decide +kernel
theorem d_Mo_decimal_49 : decode c_Mo_decimal 49 = .ok (.iconst 2, 1) := by decide +kernel
theorem d_Mo_decimal_50 : decode c_Mo_decimal 50 = .ok (.istore 5, 2) := by decide +kernel
theorem d_Mo_decimal_52 : decode c_Mo_decimal 52 = .ok (.iload_n 3, 1) := by decide +kernel
theorem d_Mo_decimal_53 : decode c_Mo_decimal 53 = .ok (.ifCond .ge 8, 3) := by decide +kernel
theorem d_Mo_decimal_56 : decode c_Mo_decimal 56 = .ok (.iload_n 3, 1) := by decide +kernel
theorem d_Mo_decimal_57 : decode c_Mo_decimal 57 = .ok (.ineg, 1) := by decide +kernel
theorem d_Mo_decimal_58 : decode c_Mo_decimal 58 = .ok (.goto 4, 3) := by decide +kernel
theorem d_Mo_decimal_61 : decode c_Mo_decimal 61 = .ok (.iload_n 3, 1) := by decide +kernel
theorem d_Mo_decimal_62 : decode c_Mo_decimal 62 = .ok (.istore 6, 2) := by decide +kernel
theorem d_Mo_decimal_64 : decode c_Mo_decimal 64 = .ok (.iconst 0, 1) := by decide +kernel
theorem d_Mo_decimal_65 : decode c_Mo_decimal 65 = .ok (.istore 7, 2) := by decide +kernel
theorem d_Mo_decimal_67 : decode c_Mo_decimal 67 = .ok (.iload 7, 2) := by decide +kernel
theorem d_Mo_decimal_69 : decode c_Mo_decimal 69 = .ok (.iload 6, 2) := by decide +kernel
theorem d_Mo_decimal_71 : decode c_Mo_decimal 71 = .ok (.if_icmp .ge 79, 3) := by decide +kernel
theorem d_Mo_decimal_74 : decode c_Mo_decimal 74 = .ok (.iconst 0, 1) := by decide +kernel
theorem d_Mo_decimal_75 : decode c_Mo_decimal 75 = .ok (.istore 8, 2) := by decide +kernel
theorem d_Mo_decimal_77 : decode c_Mo_decimal 77 = .ok (.iconst 0, 1) := by decide +kernel
theorem d_Mo_decimal_78 : decode c_Mo_decimal 78 = .ok (.istore 9, 2) := by decide +kernel
theorem d_Mo_decimal_80 : decode c_Mo_decimal 80 = .ok (.iload 9, 2) := by decide +kernel
theorem d_Mo_decimal_82 : decode c_Mo_decimal 82 = .ok (.iload 4, 2) := by decide +kernel
theorem d_Mo_decimal_84 : decode c_Mo_decimal 84 = .ok (.if_icmp .ge 43, 3) := by decide +kernel
theorem d_Mo_decimal_87 : decode c_Mo_decimal 87 = .ok (.iload 5, 2) := by decide +kernel
theorem d_Mo_decimal_89 : decode c_Mo_decimal 89 = .ok (.aload_n 0, 1) := by decide +kernel
theorem d_Mo_decimal_90 : decode c_Mo_decimal 90 = .ok (.getfield 33, 3) := by decide +kernel
theorem d_Mo_decimal_93 : decode c_Mo_decimal 93 = .ok (.iload 9, 2) := by decide +kernel
theorem d_Mo_decimal_95 : decode c_Mo_decimal 95 = .ok (.iaload, 1) := by decide +kernel
theorem d_Mo_decimal_96 : decode c_Mo_decimal 96 = .ok (.imul, 1) := by decide +kernel
theorem d_Mo_decimal_97 : decode c_Mo_decimal 97 = .ok (.iload 8, 2) := by decide +kernel
theorem d_Mo_decimal_99 : decode c_Mo_decimal 99 = .ok (.iadd, 1) := by decide +kernel
theorem d_Mo_decimal_100 : decode c_Mo_decimal 100 = .ok (.istore 10, 2) := by decide +kernel
theorem d_Mo_decimal_102 : decode c_Mo_decimal 102 = .ok (.aload_n 0, 1) := by decide +kernel
theorem d_Mo_decimal_103 : decode c_Mo_decimal 103 = .ok (.getfield 33, 3) := by decide +kernel
theorem d_Mo_decimal_106 : decode c_Mo_decimal 106 = .ok (.iload 9, 2) := by decide +kernel
theorem d_Mo_decimal_108 : decode c_Mo_decimal 108 = .ok (.iload 10, 2) := by decide +kernel
theorem d_Mo_decimal_110 : decode c_Mo_decimal 110 = .ok (.bipush 10, 2) := by decide +kernel
theorem d_Mo_decimal_112 : decode c_Mo_decimal 112 = .ok (.irem, 1) := by decide +kernel
theorem d_Mo_decimal_113 : decode c_Mo_decimal 113 = .ok (.iastore, 1) := by decide +kernel
theorem d_Mo_decimal_114 : decode c_Mo_decimal 114 = .ok (.iload 10, 2) := by decide +kernel
theorem d_Mo_decimal_116 : decode c_Mo_decimal 116 = .ok (.bipush 10, 2) := by decide +kernel
theorem d_Mo_decimal_118 : decode c_Mo_decimal 118 = .ok (.idiv, 1) := by decide +kernel
theorem d_Mo_decimal_119 : decode c_Mo_decimal 119 = .ok (.istore 8, 2) := by decide +kernel
theorem d_Mo_decimal_121 : decode c_Mo_decimal 121 = .ok (.iinc 9 1, 3) := by decide +kernel
theorem d_Mo_decimal_124 : decode c_Mo_decimal 124 = .ok (.goto (-44), 3) := by decide +kernel
theorem d_Mo_decimal_127 : decode c_Mo_decimal 127 = .ok (.iload 8, 2) := by decide +kernel
theorem d_Mo_decimal_129 : decode c_Mo_decimal 129 = .ok (.ifCond .le 15, 3) := by decide +kernel
theorem d_Mo_decimal_132 : decode c_Mo_decimal 132 = .ok (.aload_n 0, 1) := by decide +kernel
theorem d_Mo_decimal_133 : decode c_Mo_decimal 133 = .ok (.getfield 33, 3) := by decide +kernel
theorem d_Mo_decimal_136 : decode c_Mo_decimal 136 = .ok (.iload 4, 2) := by decide +kernel
theorem d_Mo_decimal_138 : decode c_Mo_decimal 138 = .ok (.iinc 4 1, 3) := by decide +kernel
theorem d_Mo_decimal_141 : decode c_Mo_decimal 141 = .ok (.iload 8, 2) := by decide +kernel
theorem d_Mo_decimal_143 : decode c_Mo_decimal 143 = .ok (.iastore, 1) := by decide +kernel
theorem d_Mo_decimal_144 : decode c_Mo_decimal 144 = .ok (.iinc 7 1, 3) := by decide +kernel
theorem d_Mo_decimal_147 : decode c_Mo_decimal 147 = .ok (.goto (-80), 3) := by decide +kernel
theorem d_Mo_decimal_150 : decode c_Mo_decimal 150 = .ok (.iconst 0, 1) := by decide +kernel
theorem d_Mo_decimal_151 : decode c_Mo_decimal 151 = .ok (.istore 7, 2) := by decide +kernel
theorem d_Mo_decimal_153 : decode c_Mo_decimal 153 = .ok (.iload 7, 2) := by decide +kernel
theorem d_Mo_decimal_155 : decode c_Mo_decimal 155 = .ok (.iload 4, 2) := by decide +kernel
theorem d_Mo_decimal_157 : decode c_Mo_decimal 157 = .ok (.iconst 2, 1) := by decide +kernel
theorem d_Mo_decimal_158 : decode c_Mo_decimal 158 = .ok (.idiv, 1) := by decide +kernel
theorem d_Mo_decimal_159 : decode c_Mo_decimal 159 = .ok (.if_icmp .ge 51, 3) := by decide +kernel
theorem d_Mo_decimal_162 : decode c_Mo_decimal 162 = .ok (.aload_n 0, 1) := by decide +kernel
theorem d_Mo_decimal_163 : decode c_Mo_decimal 163 = .ok (.getfield 33, 3) := by decide +kernel
theorem d_Mo_decimal_166 : decode c_Mo_decimal 166 = .ok (.iload 7, 2) := by decide +kernel
theorem d_Mo_decimal_168 : decode c_Mo_decimal 168 = .ok (.iaload, 1) := by decide +kernel
theorem d_Mo_decimal_169 : decode c_Mo_decimal 169 = .ok (.istore 8, 2) := by decide +kernel
theorem d_Mo_decimal_171 : decode c_Mo_decimal 171 = .ok (.aload_n 0, 1) := by decide +kernel
theorem d_Mo_decimal_172 : decode c_Mo_decimal 172 = .ok (.getfield 33, 3) := by decide +kernel
theorem d_Mo_decimal_175 : decode c_Mo_decimal 175 = .ok (.iload 7, 2) := by decide +kernel
theorem d_Mo_decimal_177 : decode c_Mo_decimal 177 = .ok (.aload_n 0, 1) := by decide +kernel
theorem d_Mo_decimal_178 : decode c_Mo_decimal 178 = .ok (.getfield 33, 3) := by decide +kernel
theorem d_Mo_decimal_181 : decode c_Mo_decimal 181 = .ok (.iload 4, 2) := by decide +kernel
theorem d_Mo_decimal_183 : decode c_Mo_decimal 183 = .ok (.iconst 1, 1) := by decide +kernel
theorem d_Mo_decimal_184 : decode c_Mo_decimal 184 = .ok (.isub, 1) := by decide +kernel
theorem d_Mo_decimal_185 : decode c_Mo_decimal 185 = .ok (.iload 7, 2) := by decide +kernel
theorem d_Mo_decimal_187 : decode c_Mo_decimal 187 = .ok (.isub, 1) := by decide +kernel
theorem d_Mo_decimal_188 : decode c_Mo_decimal 188 = .ok (.iaload, 1) := by decide +kernel
theorem d_Mo_decimal_189 : decode c_Mo_decimal 189 = .ok (.iastore, 1) := by decide +kernel
theorem d_Mo_decimal_190 : decode c_Mo_decimal 190 = .ok (.aload_n 0, 1) := by decide +kernel
theorem d_Mo_decimal_191 : decode c_Mo_decimal 191 = .ok (.getfield 33, 3) := by decide +kernel
theorem d_Mo_decimal_194 : decode c_Mo_decimal 194 = .ok (.iload 4, 2) := by decide +kernel
theorem d_Mo_decimal_196 : decode c_Mo_decimal 196 = .ok (.iconst 1, 1) := by decide +kernel
theorem d_Mo_decimal_197 : decode c_Mo_decimal 197 = .ok (.isub, 1) := by decide +kernel
theorem d_Mo_decimal_198 : decode c_Mo_decimal 198 = .ok (.iload 7, 2) := by decide +kernel
theorem d_Mo_decimal_200 : decode c_Mo_decimal 200 = .ok (.isub, 1) := by decide +kernel
theorem d_Mo_decimal_201 : decode c_Mo_decimal 201 = .ok (.iload 8, 2) := by decide +kernel
theorem d_Mo_decimal_203 : decode c_Mo_decimal 203 = .ok (.iastore, 1) := by decide +kernel
theorem d_Mo_decimal_204 : decode c_Mo_decimal 204 = .ok (.iinc 7 1, 3) := by decide +kernel
theorem d_Mo_decimal_207 : decode c_Mo_decimal 207 = .ok (.goto (-54), 3) := by decide +kernel
theorem d_Mo_decimal_210 : decode c_Mo_decimal 210 = .ok (.aload_n 0, 1) := by decide +kernel
theorem d_Mo_decimal_211 : decode c_Mo_decimal 211 = .ok (.iload 4, 2) := by decide +kernel
theorem d_Mo_decimal_213 : decode c_Mo_decimal 213 = .ok (.putfield 191, 3) := by decide +kernel
theorem d_Mo_decimal_216 : decode c_Mo_decimal 216 = .ok (.aload_n 0, 1) := by decide +kernel
theorem d_Mo_decimal_217 : decode c_Mo_decimal 217 = .ok (.iload_n 3, 1) := by decide +kernel
theorem d_Mo_decimal_218 : decode c_Mo_decimal 218 = .ok (.ifCond .ge 10, 3) := by decide +kernel
theorem d_Mo_decimal_221 : decode c_Mo_decimal 221 = .ok (.iload 4, 2) := by decide +kernel
theorem d_Mo_decimal_223 : decode c_Mo_decimal 223 = .ok (.iload_n 3, 1) := by decide +kernel
theorem d_Mo_decimal_224 : decode c_Mo_decimal 224 = .ok (.iadd, 1) := by decide +kernel
theorem d_Mo_decimal_225 : decode c_Mo_decimal 225 = .ok (.goto 5, 3) := by decide +kernel
theorem d_Mo_decimal_228 : decode c_Mo_decimal 228 = .ok (.iload 4, 2) := by decide +kernel
theorem d_Mo_decimal_230 : decode c_Mo_decimal 230 = .ok (.putfield 194, 3) := by decide +kernel
theorem d_Mo_decimal_233 : decode c_Mo_decimal 233 = .ok (.return_, 1) := by decide +kernel
theorem d_Mo_cut_0 : decode c_Mo_cut 0 = .ok (.iconst 0, 1) := by decide +kernel
theorem d_Mo_cut_1 : decode c_Mo_cut 1 = .ok (.istore_n 2, 1) := by decide +kernel
theorem d_Mo_cut_2 : decode c_Mo_cut 2 = .ok (.iload_n 2, 1) := by decide +kernel
theorem d_Mo_cut_3 : decode c_Mo_cut 3 = .ok (.iload_n 1, 1) := by decide +kernel
theorem d_Mo_cut_4 : decode c_Mo_cut 4 = .ok (.if_icmp .ge 33, 3) := by decide +kernel
theorem d_Mo_cut_7 : decode c_Mo_cut 7 = .ok (.aload_n 0, 1) := by decide +kernel
theorem d_Mo_cut_8 : decode c_Mo_cut 8 = .ok (.getfield 36, 3) := by decide +kernel
theorem d_Mo_cut_11 : decode c_Mo_cut 11 = .ok (.iload_n 2, 1) := by decide +kernel
theorem d_Mo_cut_12 : decode c_Mo_cut 12 = .ok (.iload_n 2, 1) := by decide +kernel
theorem d_Mo_cut_13 : decode c_Mo_cut 13 = .ok (.aload_n 0, 1) := by decide +kernel
theorem d_Mo_cut_14 : decode c_Mo_cut 14 = .ok (.getfield 191, 3) := by decide +kernel
theorem d_Mo_cut_17 : decode c_Mo_cut 17 = .ok (.if_icmp .ge 12, 3) := by decide +kernel
theorem d_Mo_cut_20 : decode c_Mo_cut 20 = .ok (.aload_n 0, 1) := by decide +kernel
theorem d_Mo_cut_21 : decode c_Mo_cut 21 = .ok (.getfield 33, 3) := by decide +kernel
theorem d_Mo_cut_24 : decode c_Mo_cut 24 = .ok (.iload_n 2, 1) := by decide +kernel
theorem d_Mo_cut_25 : decode c_Mo_cut 25 = .ok (.iaload, 1) := by decide +kernel
theorem d_Mo_cut_26 : decode c_Mo_cut 26 = .ok (.goto 4, 3) := by decide +kernel
theorem d_Mo_cut_29 : decode c_Mo_cut 29 = .ok (.iconst 0, 1) := by decide +kernel
theorem d_Mo_cut_30 : decode c_Mo_cut 30 = .ok (.iastore, 1) := by decide +kernel
theorem d_Mo_cut_31 : decode c_Mo_cut 31 = .ok (.iinc 2 1, 3) := by decide +kernel
theorem d_Mo_cut_34 : decode c_Mo_cut 34 = .ok (.goto (-32), 3) := by decide +kernel
theorem d_Mo_cut_37 : decode c_Mo_cut 37 = .ok (.iload_n 1, 1) := by decide +kernel
theorem d_Mo_cut_38 : decode c_Mo_cut 38 = .ok (.ifCond .lt 11, 3) := by decide +kernel
theorem d_Mo_cut_41 : decode c_Mo_cut 41 = .ok (.iload_n 1, 1) := by decide +kernel
theorem d_Mo_cut_42 : decode c_Mo_cut 42 = .ok (.aload_n 0, 1) := by decide +kernel
theorem d_Mo_cut_43 : decode c_Mo_cut 43 = .ok (.getfield 191, 3) := by decide +kernel
theorem d_Mo_cut_46 : decode c_Mo_cut 46 = .ok (.if_icmp .lt 5, 3) := by decide +kernel
theorem d_Mo_cut_49 : decode c_Mo_cut 49 = .ok (.iconst 0, 1) := by decide +kernel
theorem d_Mo_cut_50 : decode c_Mo_cut 50 = .ok (.ireturn, 1) := by decide +kernel
theorem d_Mo_cut_51 : decode c_Mo_cut 51 = .ok (.aload_n 0, 1) := by decide +kernel
theorem d_Mo_cut_52 : decode c_Mo_cut 52 = .ok (.getfield 33, 3) := by decide +kernel
theorem d_Mo_cut_55 : decode c_Mo_cut 55 = .ok (.iload_n 1, 1) := by decide +kernel
theorem d_Mo_cut_56 : decode c_Mo_cut 56 = .ok (.iaload, 1) := by decide +kernel
theorem d_Mo_cut_57 : decode c_Mo_cut 57 = .ok (.iconst 5, 1) := by decide +kernel
theorem d_Mo_cut_58 : decode c_Mo_cut 58 = .ok (.if_icmp .ne 7, 3) := by decide +kernel
theorem d_Mo_cut_61 : decode c_Mo_cut 61 = .ok (.iconst 1, 1) := by decide +kernel
theorem d_Mo_cut_62 : decode c_Mo_cut 62 = .ok (.goto 4, 3) := by decide +kernel
theorem d_Mo_cut_65 : decode c_Mo_cut 65 = .ok (.iconst 0, 1) := by decide +kernel
theorem d_Mo_cut_66 : decode c_Mo_cut 66 = .ok (.istore_n 2, 1) := by decide +kernel
theorem d_Mo_cut_67 : decode c_Mo_cut 67 = .ok (.aload_n 0, 1) := by decide +kernel
theorem d_Mo_cut_68 : decode c_Mo_cut 68 = .ok (.getfield 33, 3) := by decide +kernel
theorem d_Mo_cut_71 : decode c_Mo_cut 71 = .ok (.iload_n 1, 1) := by decide +kernel
theorem d_Mo_cut_72 : decode c_Mo_cut 72 = .ok (.iaload, 1) := by decide +kernel
theorem d_Mo_cut_73 : decode c_Mo_cut 73 = .ok (.iconst 5, 1) := by decide +kernel
theorem d_Mo_cut_74 : decode c_Mo_cut 74 = .ok (.if_icmp .le 7, 3) := by decide +kernel
theorem d_Mo_cut_77 : decode c_Mo_cut 77 = .ok (.iconst 1, 1) := by decide +kernel
theorem d_Mo_cut_78 : decode c_Mo_cut 78 = .ok (.goto 4, 3) := by decide +kernel
theorem d_Mo_cut_81 : decode c_Mo_cut 81 = .ok (.iconst 0, 1) := by decide +kernel
theorem d_Mo_cut_82 : decode c_Mo_cut 82 = .ok (.istore_n 3, 1) := by decide +kernel
theorem d_Mo_cut_83 : decode c_Mo_cut 83 = .ok (.iload_n 1, 1) := by decide +kernel
theorem d_Mo_cut_84 : decode c_Mo_cut 84 = .ok (.iconst 1, 1) := by decide +kernel
theorem d_Mo_cut_85 : decode c_Mo_cut 85 = .ok (.iadd, 1) := by decide +kernel
theorem d_Mo_cut_86 : decode c_Mo_cut 86 = .ok (.istore 4, 2) := by decide +kernel
theorem d_Mo_cut_88 : decode c_Mo_cut 88 = .ok (.iload 4, 2) := by decide +kernel
theorem d_Mo_cut_90 : decode c_Mo_cut 90 = .ok (.aload_n 0, 1) := by decide +kernel
theorem d_Mo_cut_91 : decode c_Mo_cut 91 = .ok (.getfield 191, 3) := by decide +kernel
theorem d_Mo_cut_94 : decode c_Mo_cut 94 = .ok (.if_icmp .ge 27, 3) := by decide +kernel
theorem d_Mo_cut_97 : decode c_Mo_cut 97 = .ok (.iload_n 2, 1) := by decide +kernel
theorem d_Mo_cut_98 : decode c_Mo_cut 98 = .ok (.ifCond .eq 23, 3) := by decide +kernel
theorem d_Mo_cut_101 : decode c_Mo_cut 101 = .ok (.aload_n 0, 1) := by decide +kernel
theorem d_Mo_cut_102 : decode c_Mo_cut 102 = .ok (.getfield 33, 3) := by decide +kernel
theorem d_Mo_cut_105 : decode c_Mo_cut 105 = .ok (.iload 4, 2) := by decide +kernel
theorem d_Mo_cut_107 : decode c_Mo_cut 107 = .ok (.iaload, 1) := by decide +kernel
theorem d_Mo_cut_108 : decode c_Mo_cut 108 = .ok (.ifCond .eq 7, 3) := by decide +kernel
theorem d_Mo_cut_111 : decode c_Mo_cut 111 = .ok (.iconst 0, 1) := by decide +kernel
theorem d_Mo_cut_112 : decode c_Mo_cut 112 = .ok (.istore_n 2, 1) := by decide +kernel
theorem d_Mo_cut_113 : decode c_Mo_cut 113 = .ok (.iconst 1, 1) := by decide +kernel
theorem d_Mo_cut_114 : decode c_Mo_cut 114 = .ok (.istore_n 3, 1) := by decide +kernel
theorem d_Mo_cut_115 : decode c_Mo_cut 115 = .ok (.iinc 4 1, 3) := by decide +kernel
theorem d_Mo_cut_118 : decode c_Mo_cut 118 = .ok (.goto (-30), 3) := by decide +kernel
theorem d_Mo_cut_121 : decode c_Mo_cut 121 = .ok (.iload_n 3, 1) := by decide +kernel
theorem d_Mo_cut_122 : decode c_Mo_cut 122 = .ok (.ifCond .ne 25, 3) := by decide +kernel
theorem d_Mo_cut_125 : decode c_Mo_cut 125 = .ok (.iload_n 2, 1) := by decide +kernel
theorem d_Mo_cut_126 : decode c_Mo_cut 126 = .ok (.ifCond .eq 25, 3) := by decide +kernel
theorem d_Mo_cut_129 : decode c_Mo_cut 129 = .ok (.iload_n 1, 1) := by decide +kernel
theorem d_Mo_cut_130 : decode c_Mo_cut 130 = .ok (.ifCond .le 21, 3) := by decide +kernel
theorem d_Mo_cut_133 : decode c_Mo_cut 133 = .ok (.aload_n 0, 1) := by decide +kernel
theorem d_Mo_cut_134 : decode c_Mo_cut 134 = .ok (.getfield 36, 3) := by decide +kernel
theorem d_Mo_cut_137 : decode c_Mo_cut 137 = .ok (.iload_n 1, 1) := by decide +kernel
theorem d_Mo_cut_138 : decode c_Mo_cut 138 = .ok (.iconst 1, 1) := by decide +kernel
theorem d_Mo_cut_139 : decode c_Mo_cut 139 = .ok (.isub, 1) := by decide +kernel
theorem d_Mo_cut_140 : decode c_Mo_cut 140 = .ok (.iaload, 1) := by decide +kernel
theorem d_Mo_cut_141 : decode c_Mo_cut 141 = .ok (.iconst 2, 1) := by decide +kernel
theorem d_Mo_cut_142 : decode c_Mo_cut 142 = .ok (.irem, 1) := by decide +kernel
theorem d_Mo_cut_143 : decode c_Mo_cut 143 = .ok (.iconst 1, 1) := by decide +kernel
theorem d_Mo_cut_144 : decode c_Mo_cut 144 = .ok (.if_icmp .ne 7, 3) := by decide +kernel
theorem d_Mo_cut_147 : decode c_Mo_cut 147 = .ok (.iconst 1, 1) := by decide +kernel
theorem d_Mo_cut_148 : decode c_Mo_cut 148 = .ok (.goto 4, 3) := by decide +kernel
theorem d_Mo_cut_151 : decode c_Mo_cut 151 = .ok (.iconst 0, 1) := by decide +kernel
theorem d_Mo_cut_152 : decode c_Mo_cut 152 = .ok (.istore 4, 2) := by decide +kernel
theorem d_Mo_cut_154 : decode c_Mo_cut 154 = .ok (.iload 4, 2) := by decide +kernel
theorem d_Mo_cut_156 : decode c_Mo_cut 156 = .ok (.ifCond .ne 5, 3) := by decide +kernel
theorem d_Mo_cut_159 : decode c_Mo_cut 159 = .ok (.iconst 0, 1) := by decide +kernel
theorem d_Mo_cut_160 : decode c_Mo_cut 160 = .ok (.ireturn, 1) := by decide +kernel
theorem d_Mo_cut_161 : decode c_Mo_cut 161 = .ok (.iload_n 1, 1) := by decide +kernel
theorem d_Mo_cut_162 : decode c_Mo_cut 162 = .ok (.iconst 1, 1) := by decide +kernel
theorem d_Mo_cut_163 : decode c_Mo_cut 163 = .ok (.isub, 1) := by decide +kernel
theorem d_Mo_cut_164 : decode c_Mo_cut 164 = .ok (.istore 5, 2) := by decide +kernel
theorem d_Mo_cut_166 : decode c_Mo_cut 166 = .ok (.iload 5, 2) := by decide +kernel
theorem d_Mo_cut_168 : decode c_Mo_cut 168 = .ok (.ifCond .lt 29, 3) := by decide +kernel
theorem d_Mo_cut_171 : decode c_Mo_cut 171 = .ok (.aload_n 0, 1) := by decide +kernel
theorem d_Mo_cut_172 : decode c_Mo_cut 172 = .ok (.getfield 36, 3) := by decide +kernel
theorem d_Mo_cut_175 : decode c_Mo_cut 175 = .ok (.iload 5, 2) := by decide +kernel
theorem d_Mo_cut_177 : decode c_Mo_cut 177 = .ok (.iaload, 1) := by decide +kernel
theorem d_Mo_cut_178 : decode c_Mo_cut 178 = .ok (.bipush 9, 2) := by decide +kernel
theorem d_Mo_cut_180 : decode c_Mo_cut 180 = .ok (.if_icmp .ne 17, 3) := by decide +kernel
theorem d_Mo_cut_183 : decode c_Mo_cut 183 = .ok (.aload_n 0, 1) := by decide +kernel
theorem d_Mo_cut_184 : decode c_Mo_cut 184 = .ok (.getfield 36, 3) := by decide +kernel
theorem d_Mo_cut_187 : decode c_Mo_cut 187 = .ok (.iload 5, 2) := by decide +kernel
theorem d_Mo_cut_189 : decode c_Mo_cut 189 = .ok (.iinc 5 (-1), 3) := by decide +kernel
theorem d_Mo_cut_192 : decode c_Mo_cut 192 = .ok (.iconst 0, 1) := by decide +kernel
theorem d_Mo_cut_193 : decode c_Mo_cut 193 = .ok (.iastore, 1) := by decide +kernel
theorem d_Mo_cut_194 : decode c_Mo_cut 194 = .ok (.goto (-28), 3) := by decide +kernel
theorem d_Mo_cut_197 : decode c_Mo_cut 197 = .ok (.iload 5, 2) := by decide +kernel
theorem d_Mo_cut_199 : decode c_Mo_cut 199 = .ok (.ifCond .lt 16, 3) := by decide +kernel
theorem d_Mo_cut_202 : decode c_Mo_cut 202 = .ok (.aload_n 0, 1) := by decide +kernel
theorem d_Mo_cut_203 : decode c_Mo_cut 203 = .ok (.getfield 36, 3) := by decide +kernel
theorem d_Mo_cut_206 : decode c_Mo_cut 206 = .ok (.iload 5, 2) := by decide +kernel
theorem d_Mo_cut_208 : decode c_Mo_cut 208 = .ok (.dup2, 1) := by decide +kernel
theorem d_Mo_cut_209 : decode c_Mo_cut 209 = .ok (.iaload, 1) := by decide +kernel
theorem d_Mo_cut_210 : decode c_Mo_cut 210 = .ok (.iconst 1, 1) := by decide +kernel
theorem d_Mo_cut_211 : decode c_Mo_cut 211 = .ok (.iadd, 1) := by decide +kernel
theorem d_Mo_cut_212 : decode c_Mo_cut 212 = .ok (.iastore, 1) := by decide +kernel
theorem d_Mo_cut_213 : decode c_Mo_cut 213 = .ok (.iconst 0, 1) := by decide +kernel
theorem d_Mo_cut_214 : decode c_Mo_cut 214 = .ok (.ireturn, 1) := by decide +kernel
theorem d_Mo_cut_215 : decode c_Mo_cut 215 = .ok (.iload_n 1, 1) := by decide +kernel
theorem d_Mo_cut_216 : decode c_Mo_cut 216 = .ok (.istore 6, 2) := by decide +kernel
theorem d_Mo_cut_218 : decode c_Mo_cut 218 = .ok (.iload 6, 2) := by decide +kernel
theorem d_Mo_cut_220 : decode c_Mo_cut 220 = .ok (.ifCond .le 25, 3) := by decide +kernel
theorem d_Mo_cut_223 : decode c_Mo_cut 223 = .ok (.aload_n 0, 1) := by decide +kernel
theorem d_Mo_cut_224 : decode c_Mo_cut 224 = .ok (.getfield 36, 3) := by decide +kernel
end
section
theorem d_Mo_cut_227 : decode c_Mo_cut 227 = .ok (.iload 6, 2) := by decide +kernel
theorem d_Mo_cut_229 : decode c_Mo_cut 229 = .ok (.aload_n 0, 1) := by decide +kernel
theorem d_Mo_cut_230 : decode c_Mo_cut 230 = .ok (.getfield 36, 3) := by decide +kernel
theorem d_Mo_cut_233 : decode c_Mo_cut 233 = .ok (.iload 6, 2) := by decide +kernel
theorem d_Mo_cut_235 : decode c_Mo_cut 235 = .ok (.iconst 1, 1) := by decide +kernel
theorem d_Mo_cut_236 : decode c_Mo_cut 236 = .ok (.isub, 1) := by decide +kernel
theorem d_Mo_cut_237 : decode c_Mo_cut 237 = .ok (.iaload, 1) := by decide +kernel
theorem d_Mo_cut_238 : decode c_Mo_cut 238 = .ok (.iastore, 1) := by decide +kernel
theorem d_Mo_cut_239 : decode c_Mo_cut 239 = .ok (.iinc 6 (-1), 3) := by decide +kernel
theorem d_Mo_cut_242 : decode c_Mo_cut 242 = .ok (.goto (-24), 3) := by decide +kernel
theorem d_Mo_cut_245 : decode c_Mo_cut 245 = .ok (.aload_n 0, 1) := by decide +kernel
theorem d_Mo_cut_246 : decode c_Mo_cut 246 = .ok (.getfield 36, 3) := by decide +kernel
theorem d_Mo_cut_249 : decode c_Mo_cut 249 = .ok (.iconst 0, 1) := by decide +kernel
theorem d_Mo_cut_250 : decode c_Mo_cut 250 = .ok (.iconst 1, 1) := by decide +kernel
theorem d_Mo_cut_251 : decode c_Mo_cut 251 = .ok (.iastore, 1) := by decide +kernel
theorem d_Mo_cut_252 : decode c_Mo_cut 252 = .ok (.iconst 1, 1) := by decide +kernel
theorem d_Mo_cut_253 : decode c_Mo_cut 253 = .ok (.ireturn, 1) := by decide +kernel
theorem d_Mo_fixed_0 : decode c_Mo_fixed 0 = .ok (.aload_n 0, 1) := by decide +kernel
theorem d_Mo_fixed_1 : decode c_Mo_fixed 1 = .ok (.getfield 194, 3) := by decide +kernel
theorem d_Mo_fixed_4 : decode c_Mo_fixed 4 = .ok (.iload_n 1, 1) := by decide +kernel
theorem d_Mo_fixed_5 : decode c_Mo_fixed 5 = .ok (.iadd, 1) := by decide +kernel
theorem d_Mo_fixed_6 : decode c_Mo_fixed 6 = .ok (.istore_n 2, 1) := by decide +kernel
theorem d_Mo_fixed_7 : decode c_Mo_fixed 7 = .ok (.aload_n 0, 1) := by decide +kernel
theorem d_Mo_fixed_8 : decode c_Mo_fixed 8 = .ok (.iload_n 2, 1) := by decide +kernel
theorem d_Mo_fixed_9 : decode c_Mo_fixed 9 = .ok (.invokevirtual 197, 3) := by decide +kernel
theorem d_Mo_fixed_12 : decode c_Mo_fixed 12 = .ok (.istore_n 3, 1) := by decide +kernel
theorem d_Mo_fixed_13 : decode c_Mo_fixed 13 = .ok (.iload_n 3, 1) := by decide +kernel
theorem d_Mo_fixed_14 : decode c_Mo_fixed 14 = .ok (.ifCond .eq 12, 3) := by decide +kernel
theorem d_Mo_fixed_17 : decode c_Mo_fixed 17 = .ok (.aload_n 0, 1) := by decide +kernel
theorem d_Mo_fixed_18 : decode c_Mo_fixed 18 = .ok (.getfield 194, 3) := by decide +kernel
theorem d_Mo_fixed_21 : decode c_Mo_fixed 21 = .ok (.iconst 1, 1) := by decide +kernel
theorem d_Mo_fixed_22 : decode c_Mo_fixed 22 = .ok (.iadd, 1) := by decide +kernel
theorem d_Mo_fixed_23 : decode c_Mo_fixed 23 = .ok (.goto 7, 3) := by decide +kernel
theorem d_Mo_fixed_26 : decode c_Mo_fixed 26 = .ok (.aload_n 0, 1) := by decide +kernel
theorem d_Mo_fixed_27 : decode c_Mo_fixed 27 = .ok (.getfield 194, 3) := by decide +kernel
theorem d_Mo_fixed_30 : decode c_Mo_fixed 30 = .ok (.istore 4, 2) := by decide +kernel
theorem d_Mo_fixed_32 : decode c_Mo_fixed 32 = .ok (.iload_n 2, 1) := by decide +kernel
theorem d_Mo_fixed_33 : decode c_Mo_fixed 33 = .ok (.ifCond .ge 7, 3) := by decide +kernel
theorem d_Mo_fixed_36 : decode c_Mo_fixed 36 = .ok (.iconst 0, 1) := by decide +kernel
theorem d_Mo_fixed_37 : decode c_Mo_fixed 37 = .ok (.goto 14, 3) := by decide +kernel
theorem d_Mo_fixed_40 : decode c_Mo_fixed 40 = .ok (.iload_n 3, 1) := by decide +kernel
theorem d_Mo_fixed_41 : decode c_Mo_fixed 41 = .ok (.ifCond .eq 9, 3) := by decide +kernel
theorem d_Mo_fixed_44 : decode c_Mo_fixed 44 = .ok (.iload_n 2, 1) := by decide +kernel
theorem d_Mo_fixed_45 : decode c_Mo_fixed 45 = .ok (.iconst 1, 1) := by decide +kernel
theorem d_Mo_fixed_46 : decode c_Mo_fixed 46 = .ok (.iadd, 1) := by decide +kernel
theorem d_Mo_fixed_47 : decode c_Mo_fixed 47 = .ok (.goto 4, 3) := by decide +kernel
theorem d_Mo_fixed_50 : decode c_Mo_fixed 50 = .ok (.iload_n 2, 1) := by decide +kernel
theorem d_Mo_fixed_51 : decode c_Mo_fixed 51 = .ok (.istore 5, 2) := by decide +kernel
theorem d_Mo_fixed_53 : decode c_Mo_fixed 53 = .ok (.iload_n 2, 1) := by decide +kernel
theorem d_Mo_fixed_54 : decode c_Mo_fixed 54 = .ok (.ifCond .ge 7, 3) := by decide +kernel
theorem d_Mo_fixed_57 : decode c_Mo_fixed 57 = .ok (.iload_n 1, 1) := by decide +kernel
theorem d_Mo_fixed_58 : decode c_Mo_fixed 58 = .ok (.ineg, 1) := by decide +kernel
theorem d_Mo_fixed_59 : decode c_Mo_fixed 59 = .ok (.istore 4, 2) := by decide +kernel
theorem d_Mo_fixed_61 : decode c_Mo_fixed 61 = .ok (.iload 4, 2) := by decide +kernel
theorem d_Mo_fixed_63 : decode c_Mo_fixed 63 = .ok (.ifCond .gt 9, 3) := by decide +kernel
theorem d_Mo_fixed_66 : decode c_Mo_fixed 66 = .ok (.aload_n 0, 1) := by decide +kernel
theorem d_Mo_fixed_67 : decode c_Mo_fixed 67 = .ok (.bipush 48, 2) := by decide +kernel
theorem d_Mo_fixed_69 : decode c_Mo_fixed 69 = .ok (.invokevirtual 162, 3) := by decide +kernel
theorem d_Mo_fixed_72 : decode c_Mo_fixed 72 = .ok (.iconst 0, 1) := by decide +kernel
theorem d_Mo_fixed_73 : decode c_Mo_fixed 73 = .ok (.istore 6, 2) := by decide +kernel
theorem d_Mo_fixed_75 : decode c_Mo_fixed 75 = .ok (.iload 6, 2) := by decide +kernel
theorem d_Mo_fixed_77 : decode c_Mo_fixed 77 = .ok (.iload 4, 2) := by decide +kernel
theorem d_Mo_fixed_79 : decode c_Mo_fixed 79 = .ok (.if_icmp .ge 23, 3) := by decide +kernel
theorem d_Mo_fixed_82 : decode c_Mo_fixed 82 = .ok (.aload_n 0, 1) := by decide +kernel
theorem d_Mo_fixed_83 : decode c_Mo_fixed 83 = .ok (.bipush 48, 2) := by decide +kernel
theorem d_Mo_fixed_85 : decode c_Mo_fixed 85 = .ok (.aload_n 0, 1) := by decide +kernel
theorem d_Mo_fixed_86 : decode c_Mo_fixed 86 = .ok (.getfield 36, 3) := by decide +kernel
theorem d_Mo_fixed_89 : decode c_Mo_fixed 89 = .ok (.iload 6, 2) := by decide +kernel
theorem d_Mo_fixed_91 : decode c_Mo_fixed 91 = .ok (.iaload, 1) := by decide +kernel
theorem d_Mo_fixed_92 : decode c_Mo_fixed 92 = .ok (.iadd, 1) := by decide +kernel
theorem d_Mo_fixed_93 : decode c_Mo_fixed 93 = .ok (.invokevirtual 162, 3) := by decide +kernel
theorem d_Mo_fixed_96 : decode c_Mo_fixed 96 = .ok (.iinc 6 1, 3) := by decide +kernel
theorem d_Mo_fixed_99 : decode c_Mo_fixed 99 = .ok (.goto (-24), 3) := by decide +kernel
theorem d_Mo_fixed_102 : decode c_Mo_fixed 102 = .ok (.iload_n 1, 1) := by decide +kernel
theorem d_Mo_fixed_103 : decode c_Mo_fixed 103 = .ok (.ifCond .gt 10, 3) := by decide +kernel
theorem d_Mo_fixed_106 : decode c_Mo_fixed 106 = .ok (.aload_n 0, 1) := by decide +kernel
theorem d_Mo_fixed_107 : decode c_Mo_fixed 107 = .ok (.getfield 79, 3) := by decide +kernel
theorem d_Mo_fixed_110 : decode c_Mo_fixed 110 = .ok (.ifCond .eq 9, 3) := by decide +kernel
theorem d_Mo_fixed_113 : decode c_Mo_fixed 113 = .ok (.aload_n 0, 1) := by decide +kernel
theorem d_Mo_fixed_114 : decode c_Mo_fixed 114 = .ok (.bipush 46, 2) := by decide +kernel
theorem d_Mo_fixed_116 : decode c_Mo_fixed 116 = .ok (.invokevirtual 162, 3) := by decide +kernel
theorem d_Mo_fixed_119 : decode c_Mo_fixed 119 = .ok (.iconst 0, 1) := by decide +kernel
theorem d_Mo_fixed_120 : decode c_Mo_fixed 120 = .ok (.istore 6, 2) := by decide +kernel
theorem d_Mo_fixed_122 : decode c_Mo_fixed 122 = .ok (.iload 6, 2) := by decide +kernel
theorem d_Mo_fixed_124 : decode c_Mo_fixed 124 = .ok (.iload_n 1, 1) := by decide +kernel
theorem d_Mo_fixed_125 : decode c_Mo_fixed 125 = .ok (.if_icmp .ge 47, 3) := by decide +kernel
theorem d_Mo_fixed_128 : decode c_Mo_fixed 128 = .ok (.iload 4, 2) := by decide +kernel
theorem d_Mo_fixed_130 : decode c_Mo_fixed 130 = .ok (.iload 6, 2) := by decide +kernel
theorem d_Mo_fixed_132 : decode c_Mo_fixed 132 = .ok (.iadd, 1) := by decide +kernel
theorem d_Mo_fixed_133 : decode c_Mo_fixed 133 = .ok (.istore 7, 2) := by decide +kernel
theorem d_Mo_fixed_135 : decode c_Mo_fixed 135 = .ok (.aload_n 0, 1) := by decide +kernel
theorem d_Mo_fixed_136 : decode c_Mo_fixed 136 = .ok (.iload 7, 2) := by decide +kernel
theorem d_Mo_fixed_138 : decode c_Mo_fixed 138 = .ok (.ifCond .lt 10, 3) := by decide +kernel
theorem d_Mo_fixed_141 : decode c_Mo_fixed 141 = .ok (.iload 7, 2) := by decide +kernel
theorem d_Mo_fixed_143 : decode c_Mo_fixed 143 = .ok (.iload 5, 2) := by decide +kernel
theorem d_Mo_fixed_145 : decode c_Mo_fixed 145 = .ok (.if_icmp .lt 8, 3) := by decide +kernel
theorem d_Mo_fixed_148 : decode c_Mo_fixed 148 = .ok (.bipush 48, 2) := by decide +kernel
theorem d_Mo_fixed_150 : decode c_Mo_fixed 150 = .ok (.goto 13, 3) := by decide +kernel
theorem d_Mo_fixed_153 : decode c_Mo_fixed 153 = .ok (.bipush 48, 2) := by decide +kernel
theorem d_Mo_fixed_155 : decode c_Mo_fixed 155 = .ok (.aload_n 0, 1) := by decide +kernel
theorem d_Mo_fixed_156 : decode c_Mo_fixed 156 = .ok (.getfield 36, 3) := by decide +kernel
theorem d_Mo_fixed_159 : decode c_Mo_fixed 159 = .ok (.iload 7, 2) := by decide +kernel
theorem d_Mo_fixed_161 : decode c_Mo_fixed 161 = .ok (.iaload, 1) := by decide +kernel
theorem d_Mo_fixed_162 : decode c_Mo_fixed 162 = .ok (.iadd, 1) := by decide +kernel
theorem d_Mo_fixed_163 : decode c_Mo_fixed 163 = .ok (.invokevirtual 162, 3) := by decide +kernel
theorem d_Mo_fixed_166 : decode c_Mo_fixed 166 = .ok (.iinc 6 1, 3) := by decide +kernel
theorem d_Mo_fixed_169 : decode c_Mo_fixed 169 = .ok (.goto (-47), 3) := by decide +kernel
theorem d_Mo_fixed_172 : decode c_Mo_fixed 172 = .ok (.return_, 1) := by decide +kernel
theorem d_Mo_exponent_0 : decode c_Mo_exponent 0 = .ok (.aload_n 0, 1) := by decide +kernel
theorem d_Mo_exponent_1 : decode c_Mo_exponent 1 = .ok (.getfield 191, 3) := by decide +kernel
theorem d_Mo_exponent_4 : decode c_Mo_exponent 4 = .ok (.ifCond .ne 25, 3) := by decide +kernel
theorem d_Mo_exponent_7 : decode c_Mo_exponent 7 = .ok (.iconst 0, 1) := by decide +kernel
theorem d_Mo_exponent_8 : decode c_Mo_exponent 8 = .ok (.istore_n 2, 1) := by decide +kernel
theorem d_Mo_exponent_9 : decode c_Mo_exponent 9 = .ok (.iload_n 2, 1) := by decide +kernel
theorem d_Mo_exponent_10 : decode c_Mo_exponent 10 = .ok (.iload_n 1, 1) := by decide +kernel
theorem d_Mo_exponent_11 : decode c_Mo_exponent 11 = .ok (.if_icmp .gt 16, 3) := by decide +kernel
theorem d_Mo_exponent_14 : decode c_Mo_exponent 14 = .ok (.aload_n 0, 1) := by decide +kernel
theorem d_Mo_exponent_15 : decode c_Mo_exponent 15 = .ok (.getfield 36, 3) := by decide +kernel
theorem d_Mo_exponent_18 : decode c_Mo_exponent 18 = .ok (.iload_n 2, 1) := by decide +kernel
theorem d_Mo_exponent_19 : decode c_Mo_exponent 19 = .ok (.iconst 0, 1) := by decide +kernel
theorem d_Mo_exponent_20 : decode c_Mo_exponent 20 = .ok (.iastore, 1) := by decide +kernel
theorem d_Mo_exponent_21 : decode c_Mo_exponent 21 = .ok (.iinc 2 1, 3) := by decide +kernel
theorem d_Mo_exponent_24 : decode c_Mo_exponent 24 = .ok (.goto (-15), 3) := by decide +kernel
theorem d_Mo_exponent_27 : decode c_Mo_exponent 27 = .ok (.iconst 0, 1) := by decide +kernel
theorem d_Mo_exponent_28 : decode c_Mo_exponent 28 = .ok (.ireturn, 1) := by decide +kernel
theorem d_Mo_exponent_29 : decode c_Mo_exponent 29 = .ok (.aload_n 0, 1) := by decide +kernel
theorem d_Mo_exponent_30 : decode c_Mo_exponent 30 = .ok (.iload_n 1, 1) := by decide +kernel
theorem d_Mo_exponent_31 : decode c_Mo_exponent 31 = .ok (.iconst 1, 1) := by decide +kernel
theorem d_Mo_exponent_32 : decode c_Mo_exponent 32 = .ok (.iadd, 1) := by decide +kernel
theorem d_Mo_exponent_33 : decode c_Mo_exponent 33 = .ok (.invokevirtual 197, 3) := by decide +kernel
theorem d_Mo_exponent_36 : decode c_Mo_exponent 36 = .ok (.ifCond .eq 12, 3) := by decide +kernel
theorem d_Mo_exponent_39 : decode c_Mo_exponent 39 = .ok (.aload_n 0, 1) := by decide +kernel
theorem d_Mo_exponent_40 : decode c_Mo_exponent 40 = .ok (.getfield 194, 3) := by decide +kernel
theorem d_Mo_exponent_43 : decode c_Mo_exponent 43 = .ok (.iconst 1, 1) := by decide +kernel
theorem d_Mo_exponent_44 : decode c_Mo_exponent 44 = .ok (.iadd, 1) := by decide +kernel
theorem d_Mo_exponent_45 : decode c_Mo_exponent 45 = .ok (.goto 7, 3) := by decide +kernel
theorem d_Mo_exponent_48 : decode c_Mo_exponent 48 = .ok (.aload_n 0, 1) := by decide +kernel
theorem d_Mo_exponent_49 : decode c_Mo_exponent 49 = .ok (.getfield 194, 3) := by decide +kernel
theorem d_Mo_exponent_52 : decode c_Mo_exponent 52 = .ok (.iconst 1, 1) := by decide +kernel
theorem d_Mo_exponent_53 : decode c_Mo_exponent 53 = .ok (.isub, 1) := by decide +kernel
theorem d_Mo_exponent_54 : decode c_Mo_exponent 54 = .ok (.ireturn, 1) := by decide +kernel
theorem d_Mo_scientific_0 : decode c_Mo_scientific 0 = .ok (.aload_n 0, 1) := by decide +kernel
theorem d_Mo_scientific_1 : decode c_Mo_scientific 1 = .ok (.iload_n 1, 1) := by decide +kernel
theorem d_Mo_scientific_2 : decode c_Mo_scientific 2 = .ok (.invokevirtual 200, 3) := by decide +kernel
theorem d_Mo_scientific_5 : decode c_Mo_scientific 5 = .ok (.istore_n 3, 1) := by decide +kernel
theorem d_Mo_scientific_6 : decode c_Mo_scientific 6 = .ok (.aload_n 0, 1) := by decide +kernel
theorem d_Mo_scientific_7 : decode c_Mo_scientific 7 = .ok (.bipush 48, 2) := by decide +kernel
theorem d_Mo_scientific_9 : decode c_Mo_scientific 9 = .ok (.aload_n 0, 1) := by decide +kernel
theorem d_Mo_scientific_10 : decode c_Mo_scientific 10 = .ok (.getfield 36, 3) := by decide +kernel
theorem d_Mo_scientific_13 : decode c_Mo_scientific 13 = .ok (.iconst 0, 1) := by decide +kernel
theorem d_Mo_scientific_14 : decode c_Mo_scientific 14 = .ok (.iaload, 1) := by decide +kernel
theorem d_Mo_scientific_15 : decode c_Mo_scientific 15 = .ok (.iadd, 1) := by decide +kernel
theorem d_Mo_scientific_16 : decode c_Mo_scientific 16 = .ok (.invokevirtual 162, 3) := by decide +kernel
theorem d_Mo_scientific_19 : decode c_Mo_scientific 19 = .ok (.iload_n 1, 1) := by decide +kernel
theorem d_Mo_scientific_20 : decode c_Mo_scientific 20 = .ok (.ifCond .gt 10, 3) := by decide +kernel
theorem d_Mo_scientific_23 : decode c_Mo_scientific 23 = .ok (.aload_n 0, 1) := by decide +kernel
theorem d_Mo_scientific_24 : decode c_Mo_scientific 24 = .ok (.getfield 79, 3) := by decide +kernel
theorem d_Mo_scientific_27 : decode c_Mo_scientific 27 = .ok (.ifCond .eq 9, 3) := by decide +kernel
theorem d_Mo_scientific_30 : decode c_Mo_scientific 30 = .ok (.aload_n 0, 1) := by decide +kernel
theorem d_Mo_scientific_31 : decode c_Mo_scientific 31 = .ok (.bipush 46, 2) := by decide +kernel
theorem d_Mo_scientific_33 : decode c_Mo_scientific 33 = .ok (.invokevirtual 162, 3) := by decide +kernel
theorem d_Mo_scientific_36 : decode c_Mo_scientific 36 = .ok (.iconst 1, 1) := by decide +kernel
theorem d_Mo_scientific_37 : decode c_Mo_scientific 37 = .ok (.istore 4, 2) := by decide +kernel
theorem d_Mo_scientific_39 : decode c_Mo_scientific 39 = .ok (.iload 4, 2) := by decide +kernel
theorem d_Mo_scientific_41 : decode c_Mo_scientific 41 = .ok (.iload_n 1, 1) := by decide +kernel
theorem d_Mo_scientific_42 : decode c_Mo_scientific 42 = .ok (.if_icmp .gt 23, 3) := by decide +kernel
theorem d_Mo_scientific_45 : decode c_Mo_scientific 45 = .ok (.aload_n 0, 1) := by decide +kernel
theorem d_Mo_scientific_46 : decode c_Mo_scientific 46 = .ok (.bipush 48, 2) := by decide +kernel
theorem d_Mo_scientific_48 : decode c_Mo_scientific 48 = .ok (.aload_n 0, 1) := by decide +kernel
theorem d_Mo_scientific_49 : decode c_Mo_scientific 49 = .ok (.getfield 36, 3) := by decide +kernel
theorem d_Mo_scientific_52 : decode c_Mo_scientific 52 = .ok (.iload 4, 2) := by decide +kernel
theorem d_Mo_scientific_54 : decode c_Mo_scientific 54 = .ok (.iaload, 1) := by decide +kernel
theorem d_Mo_scientific_55 : decode c_Mo_scientific 55 = .ok (.iadd, 1) := by decide +kernel
theorem d_Mo_scientific_56 : decode c_Mo_scientific 56 = .ok (.invokevirtual 162, 3) := by decide +kernel
theorem d_Mo_scientific_59 : decode c_Mo_scientific 59 = .ok (.iinc 4 1, 3) := by decide +kernel
theorem d_Mo_scientific_62 : decode c_Mo_scientific 62 = .ok (.goto (-23), 3) := by decide +kernel
theorem d_Mo_scientific_65 : decode c_Mo_scientific 65 = .ok (.aload_n 0, 1) := by decide +kernel
theorem d_Mo_scientific_66 : decode c_Mo_scientific 66 = .ok (.iload_n 2, 1) := by decide +kernel
theorem d_Mo_scientific_67 : decode c_Mo_scientific 67 = .ok (.ifCond .eq 8, 3) := by decide +kernel
theorem d_Mo_scientific_70 : decode c_Mo_scientific 70 = .ok (.bipush 69, 2) := by decide +kernel
theorem d_Mo_scientific_72 : decode c_Mo_scientific 72 = .ok (.goto 5, 3) := by decide +kernel
theorem d_Mo_scientific_75 : decode c_Mo_scientific 75 = .ok (.bipush 101, 2) := by decide +kernel
theorem d_Mo_scientific_77 : decode c_Mo_scientific 77 = .ok (.invokevirtual 162, 3) := by decide +kernel
theorem d_Mo_scientific_80 : decode c_Mo_scientific 80 = .ok (.aload_n 0, 1) := by decide +kernel
theorem d_Mo_scientific_81 : decode c_Mo_scientific 81 = .ok (.iload_n 3, 1) := by decide +kernel
theorem d_Mo_scientific_82 : decode c_Mo_scientific 82 = .ok (.ifCond .ge 8, 3) := by decide +kernel
theorem d_Mo_scientific_85 : decode c_Mo_scientific 85 = .ok (.bipush 45, 2) := by decide +kernel
theorem d_Mo_scientific_87 : decode c_Mo_scientific 87 = .ok (.goto 5, 3) := by decide +kernel
theorem d_Mo_scientific_90 : decode c_Mo_scientific 90 = .ok (.bipush 43, 2) := by decide +kernel
theorem d_Mo_scientific_92 : decode c_Mo_scientific 92 = .ok (.invokevirtual 162, 3) := by decide +kernel
theorem d_Mo_scientific_95 : decode c_Mo_scientific 95 = .ok (.iload_n 3, 1) := by decide +kernel
theorem d_Mo_scientific_96 : decode c_Mo_scientific 96 = .ok (.ifCond .ge 8, 3) := by decide +kernel
theorem d_Mo_scientific_99 : decode c_Mo_scientific 99 = .ok (.iload_n 3, 1) := by decide +kernel
theorem d_Mo_scientific_100 : decode c_Mo_scientific 100 = .ok (.ineg, 1) := by decide +kernel
theorem d_Mo_scientific_101 : decode c_Mo_scientific 101 = .ok (.goto 4, 3) := by decide +kernel
theorem d_Mo_scientific_104 : decode c_Mo_scientific 104 = .ok (.iload_n 3, 1) := by decide +kernel
theorem d_Mo_scientific_105 : decode c_Mo_scientific 105 = .ok (.istore 4, 2) := by decide +kernel
theorem d_Mo_scientific_107 : decode c_Mo_scientific 107 = .ok (.iload 4, 2) := by decide +kernel
theorem d_Mo_scientific_109 : decode c_Mo_scientific 109 = .ok (.bipush 99, 2) := by decide +kernel
theorem d_Mo_scientific_111 : decode c_Mo_scientific 111 = .ok (.if_icmp .le 15, 3) := by decide +kernel
theorem d_Mo_scientific_114 : decode c_Mo_scientific 114 = .ok (.aload_n 0, 1) := by decide +kernel
theorem d_Mo_scientific_115 : decode c_Mo_scientific 115 = .ok (.bipush 48, 2) := by decide +kernel
theorem d_Mo_scientific_117 : decode c_Mo_scientific 117 = .ok (.iload 4, 2) := by decide +kernel
theorem d_Mo_scientific_119 : decode c_Mo_scientific 119 = .ok (.bipush 100, 2) := by decide +kernel
theorem d_Mo_scientific_121 : decode c_Mo_scientific 121 = .ok (.idiv, 1) := by decide +kernel
theorem d_Mo_scientific_122 : decode c_Mo_scientific 122 = .ok (.iadd, 1) := by decide +kernel
theorem d_Mo_scientific_123 : decode c_Mo_scientific 123 = .ok (.invokevirtual 162, 3) := by decide +kernel
theorem d_Mo_scientific_126 : decode c_Mo_scientific 126 = .ok (.aload_n 0, 1) := by decide +kernel
theorem d_Mo_scientific_127 : decode c_Mo_scientific 127 = .ok (.bipush 48, 2) := by decide +kernel
theorem d_Mo_scientific_129 : decode c_Mo_scientific 129 = .ok (.iload 4, 2) := by decide +kernel
theorem d_Mo_scientific_131 : decode c_Mo_scientific 131 = .ok (.bipush 10, 2) := by decide +kernel
theorem d_Mo_scientific_133 : decode c_Mo_scientific 133 = .ok (.idiv, 1) := by decide +kernel
theorem d_Mo_scientific_134 : decode c_Mo_scientific 134 = .ok (.bipush 10, 2) := by decide +kernel
theorem d_Mo_scientific_136 : decode c_Mo_scientific 136 = .ok (.irem, 1) := by decide +kernel
theorem d_Mo_scientific_137 : decode c_Mo_scientific 137 = .ok (.iadd, 1) := by decide +kernel
theorem d_Mo_scientific_138 : decode c_Mo_scientific 138 = .ok (.invokevirtual 162, 3) := by decide +kernel
theorem d_Mo_scientific_141 : decode c_Mo_scientific 141 = .ok (.aload_n 0, 1) := by decide +kernel
theorem d_Mo_scientific_142 : decode c_Mo_scientific 142 = .ok (.bipush 48, 2) := by decide +kernel
theorem d_Mo_scientific_144 : decode c_Mo_scientific 144 = .ok (.iload 4, 2) := by decide +kernel
theorem d_Mo_scientific_146 : decode c_Mo_scientific 146 = .ok (.bipush 10, 2) := by decide +kernel
theorem d_Mo_scientific_148 : decode c_Mo_scientific 148 = .ok (.irem, 1) := by decide +kernel
theorem d_Mo_scientific_149 : decode c_Mo_scientific 149 = .ok (.iadd, 1) := by decide +kernel
theorem d_Mo_scientific_150 : decode c_Mo_scientific 150 = .ok (.invokevirtual 162, 3) := by decide +kernel
theorem d_Mo_scientific_153 : decode c_Mo_scientific 153 = .ok (.return_, 1) := by decide +kernel
theorem d_Mo_general_0 : decode c_Mo_general 0 = .ok (.iload_n 1, 1) := by decide +kernel
theorem d_Mo_general_1 : decode c_Mo_general 1 = .ok (.ifCond .ne 7, 3) := by decide +kernel
theorem d_Mo_general_4 : decode c_Mo_general 4 = .ok (.iconst 1, 1) := by decide +kernel
theorem d_Mo_general_5 : decode c_Mo_general 5 = .ok (.goto 4, 3) := by decide +kernel
theorem d_Mo_general_8 : decode c_Mo_general 8 = .ok (.iload_n 1, 1) := by decide +kernel
theorem d_Mo_general_9 : decode c_Mo_general 9 = .ok (.istore_n 3, 1) := by decide +kernel
theorem d_Mo_general_10 : decode c_Mo_general 10 = .ok (.aload_n 0, 1) := by decide +kernel
theorem d_Mo_general_11 : decode c_Mo_general 11 = .ok (.iload_n 3, 1) := by decide +kernel
theorem d_Mo_general_12 : decode c_Mo_general 12 = .ok (.iconst 1, 1) := by decide +kernel
theorem d_Mo_general_13 : decode c_Mo_general 13 = .ok (.isub, 1) := by decide +kernel
theorem d_Mo_general_14 : decode c_Mo_general 14 = .ok (.invokevirtual 200, 3) := by decide +kernel
theorem d_Mo_general_17 : decode c_Mo_general 17 = .ok (.istore 4, 2) := by decide +kernel
theorem d_Mo_general_19 : decode c_Mo_general 19 = .ok (.iload 4, 2) := by decide +kernel
theorem d_Mo_general_21 : decode c_Mo_general 21 = .ok (.bipush (-4), 2) := by decide +kernel
theorem d_Mo_general_23 : decode c_Mo_general 23 = .ok (.if_icmp .lt 13, 3) := by decide +kernel
theorem d_Mo_general_26 : decode c_Mo_general 26 = .ok (.iload 4, 2) := by decide +kernel
theorem d_Mo_general_28 : decode c_Mo_general 28 = .ok (.iload_n 3, 1) := by decide +kernel
theorem d_Mo_general_29 : decode c_Mo_general 29 = .ok (.if_icmp .ge 7, 3) := by decide +kernel
theorem d_Mo_general_32 : decode c_Mo_general 32 = .ok (.iconst 1, 1) := by decide +kernel
theorem d_Mo_general_33 : decode c_Mo_general 33 = .ok (.goto 4, 3) := by decide +kernel
theorem d_Mo_general_36 : decode c_Mo_general 36 = .ok (.iconst 0, 1) := by decide +kernel
theorem d_Mo_general_37 : decode c_Mo_general 37 = .ok (.istore 5, 2) := by decide +kernel
theorem d_Mo_general_39 : decode c_Mo_general 39 = .ok (.iload 5, 2) := by decide +kernel
theorem d_Mo_general_41 : decode c_Mo_general 41 = .ok (.ifCond .eq 16, 3) := by decide +kernel
theorem d_Mo_general_44 : decode c_Mo_general 44 = .ok (.aload_n 0, 1) := by decide +kernel
theorem d_Mo_general_45 : decode c_Mo_general 45 = .ok (.iload_n 3, 1) := by decide +kernel
theorem d_Mo_general_46 : decode c_Mo_general 46 = .ok (.iconst 1, 1) := by decide +kernel
theorem d_Mo_general_47 : decode c_Mo_general 47 = .ok (.isub, 1) := by decide +kernel
theorem d_Mo_general_48 : decode c_Mo_general 48 = .ok (.iload 4, 2) := by decide +kernel
theorem d_Mo_general_50 : decode c_Mo_general 50 = .ok (.isub, 1) := by decide +kernel
theorem d_Mo_general_51 : decode c_Mo_general 51 = .ok (.invokevirtual 203, 3) := by decide +kernel
theorem d_Mo_general_54 : decode c_Mo_general 54 = .ok (.goto 11, 3) := by decide +kernel
theorem d_Mo_general_57 : decode c_Mo_general 57 = .ok (.aload_n 0, 1) := by decide +kernel
theorem d_Mo_general_58 : decode c_Mo_general 58 = .ok (.iload_n 3, 1) := by decide +kernel
theorem d_Mo_general_59 : decode c_Mo_general 59 = .ok (.iconst 1, 1) := by decide +kernel
theorem d_Mo_general_60 : decode c_Mo_general 60 = .ok (.isub, 1) := by decide +kernel
theorem d_Mo_general_61 : decode c_Mo_general 61 = .ok (.iload_n 2, 1) := by decide +kernel
theorem d_Mo_general_62 : decode c_Mo_general 62 = .ok (.invokevirtual 206, 3) := by decide +kernel
theorem d_Mo_general_65 : decode c_Mo_general 65 = .ok (.aload_n 0, 1) := by decide +kernel
theorem d_Mo_general_66 : decode c_Mo_general 66 = .ok (.getfield 79, 3) := by decide +kernel
theorem d_Mo_general_69 : decode c_Mo_general 69 = .ok (.ifCond .eq 4, 3) := by decide +kernel
theorem d_Mo_general_72 : decode c_Mo_general 72 = .ok (.return_, 1) := by decide +kernel
theorem d_Mo_general_73 : decode c_Mo_general 73 = .ok (.aload_n 0, 1) := by decide +kernel
theorem d_Mo_general_74 : decode c_Mo_general 74 = .ok (.getfield 156, 3) := by decide +kernel
theorem d_Mo_general_77 : decode c_Mo_general 77 = .ok (.istore 6, 2) := by decide +kernel
theorem d_Mo_general_79 : decode c_Mo_general 79 = .ok (.iload 5, 2) := by decide +kernel
theorem d_Mo_general_81 : decode c_Mo_general 81 = .ok (.ifCond .ne 36, 3) := by decide +kernel
theorem d_Mo_general_84 : decode c_Mo_general 84 = .ok (.iconst 0, 1) := by decide +kernel
theorem d_Mo_general_85 : decode c_Mo_general 85 = .ok (.istore 6, 2) := by decide +kernel
theorem d_Mo_general_87 : decode c_Mo_general 87 = .ok (.aload_n 0, 1) := by decide +kernel
theorem d_Mo_general_88 : decode c_Mo_general 88 = .ok (.getfield 27, 3) := by decide +kernel
theorem d_Mo_general_91 : decode c_Mo_general 91 = .ok (.iload 6, 2) := by decide +kernel
theorem d_Mo_general_93 : decode c_Mo_general 93 = .ok (.iaload, 1) := by decide +kernel
theorem d_Mo_general_94 : decode c_Mo_general 94 = .ok (.bipush 101, 2) := by decide +kernel
theorem d_Mo_general_96 : decode c_Mo_general 96 = .ok (.if_icmp .eq 21, 3) := by decide +kernel
theorem d_Mo_general_99 : decode c_Mo_general 99 = .ok (.aload_n 0, 1) := by decide +kernel
theorem d_Mo_general_100 : decode c_Mo_general 100 = .ok (.getfield 27, 3) := by decide +kernel
theorem d_Mo_general_103 : decode c_Mo_general 103 = .ok (.iload 6, 2) := by decide +kernel
theorem d_Mo_general_105 : decode c_Mo_general 105 = .ok (.iaload, 1) := by decide +kernel
theorem d_Mo_general_106 : decode c_Mo_general 106 = .ok (.bipush 69, 2) := by decide +kernel
theorem d_Mo_general_108 : decode c_Mo_general 108 = .ok (.if_icmp .eq 9, 3) := by decide +kernel
theorem d_Mo_general_111 : decode c_Mo_general 111 = .ok (.iinc 6 1, 3) := by decide +kernel
theorem d_Mo_general_114 : decode c_Mo_general 114 = .ok (.goto (-27), 3) := by decide +kernel
theorem d_Mo_general_117 : decode c_Mo_general 117 = .ok (.iconst 0, 1) := by decide +kernel
theorem d_Mo_general_118 : decode c_Mo_general 118 = .ok (.istore 7, 2) := by decide +kernel
theorem d_Mo_general_120 : decode c_Mo_general 120 = .ok (.iload 7, 2) := by decide +kernel
theorem d_Mo_general_122 : decode c_Mo_general 122 = .ok (.iload 6, 2) := by decide +kernel
theorem d_Mo_general_124 : decode c_Mo_general 124 = .ok (.if_icmp .ge 21, 3) := by decide +kernel
theorem d_Mo_general_127 : decode c_Mo_general 127 = .ok (.aload_n 0, 1) := by decide +kernel
theorem d_Mo_general_128 : decode c_Mo_general 128 = .ok (.getfield 27, 3) := by decide +kernel
theorem d_Mo_general_131 : decode c_Mo_general 131 = .ok (.iload 7, 2) := by decide +kernel
theorem d_Mo_general_133 : decode c_Mo_general 133 = .ok (.iaload, 1) := by decide +kernel
theorem d_Mo_general_134 : decode c_Mo_general 134 = .ok (.bipush 46, 2) := by decide +kernel
theorem d_Mo_general_136 : decode c_Mo_general 136 = .ok (.if_icmp .eq 9, 3) := by decide +kernel
theorem d_Mo_general_139 : decode c_Mo_general 139 = .ok (.iinc 7 1, 3) := by decide +kernel
theorem d_Mo_general_142 : decode c_Mo_general 142 = .ok (.goto (-22), 3) := by decide +kernel
theorem d_Mo_general_145 : decode c_Mo_general 145 = .ok (.iload 7, 2) := by decide +kernel
theorem d_Mo_general_147 : decode c_Mo_general 147 = .ok (.iload 6, 2) := by decide +kernel
theorem d_Mo_general_149 : decode c_Mo_general 149 = .ok (.if_icmp .ne 4, 3) := by decide +kernel
theorem d_Mo_general_152 : decode c_Mo_general 152 = .ok (.return_, 1) := by decide +kernel
theorem d_Mo_general_153 : decode c_Mo_general 153 = .ok (.iload 6, 2) := by decide +kernel
theorem d_Mo_general_155 : decode c_Mo_general 155 = .ok (.istore 8, 2) := by decide +kernel
theorem d_Mo_general_157 : decode c_Mo_general 157 = .ok (.aload_n 0, 1) := by decide +kernel
theorem d_Mo_general_158 : decode c_Mo_general 158 = .ok (.getfield 27, 3) := by decide +kernel
theorem d_Mo_general_161 : decode c_Mo_general 161 = .ok (.iload 8, 2) := by decide +kernel
theorem d_Mo_general_163 : decode c_Mo_general 163 = .ok (.iconst 1, 1) := by decide +kernel
theorem d_Mo_general_164 : decode c_Mo_general 164 = .ok (.isub, 1) := by decide +kernel
theorem d_Mo_general_165 : decode c_Mo_general 165 = .ok (.iaload, 1) := by decide +kernel
theorem d_Mo_general_166 : decode c_Mo_general 166 = .ok (.bipush 48, 2) := by decide +kernel
theorem d_Mo_general_168 : decode c_Mo_general 168 = .ok (.if_icmp .ne 9, 3) := by decide +kernel
theorem d_Mo_general_171 : decode c_Mo_general 171 = .ok (.iinc 8 (-1), 3) := by decide +kernel
theorem d_Mo_general_174 : decode c_Mo_general 174 = .ok (.goto (-17), 3) := by decide +kernel
theorem d_Mo_general_177 : decode c_Mo_general 177 = .ok (.aload_n 0, 1) := by decide +kernel
theorem d_Mo_general_178 : decode c_Mo_general 178 = .ok (.getfield 27, 3) := by decide +kernel
theorem d_Mo_general_181 : decode c_Mo_general 181 = .ok (.iload 8, 2) := by decide +kernel
theorem d_Mo_general_183 : decode c_Mo_general 183 = .ok (.iconst 1, 1) := by decide +kernel
theorem d_Mo_general_184 : decode c_Mo_general 184 = .ok (.isub, 1) := by decide +kernel
theorem d_Mo_general_185 : decode c_Mo_general 185 = .ok (.iaload, 1) := by decide +kernel
theorem d_Mo_general_186 : decode c_Mo_general 186 = .ok (.bipush 46, 2) := by decide +kernel
theorem d_Mo_general_188 : decode c_Mo_general 188 = .ok (.if_icmp .ne 6, 3) := by decide +kernel
theorem d_Mo_general_191 : decode c_Mo_general 191 = .ok (.iinc 8 (-1), 3) := by decide +kernel
theorem d_Mo_general_194 : decode c_Mo_general 194 = .ok (.iload 6, 2) := by decide +kernel
theorem d_Mo_general_196 : decode c_Mo_general 196 = .ok (.istore 9, 2) := by decide +kernel
theorem d_Mo_general_198 : decode c_Mo_general 198 = .ok (.iload 9, 2) := by decide +kernel
theorem d_Mo_general_200 : decode c_Mo_general 200 = .ok (.aload_n 0, 1) := by decide +kernel
theorem d_Mo_general_201 : decode c_Mo_general 201 = .ok (.getfield 156, 3) := by decide +kernel
theorem d_Mo_general_204 : decode c_Mo_general 204 = .ok (.if_icmp .ge 29, 3) := by decide +kernel
theorem d_Mo_general_207 : decode c_Mo_general 207 = .ok (.aload_n 0, 1) := by decide +kernel
theorem d_Mo_general_208 : decode c_Mo_general 208 = .ok (.getfield 27, 3) := by decide +kernel
theorem d_Mo_general_211 : decode c_Mo_general 211 = .ok (.iload 8, 2) := by decide +kernel
theorem d_Mo_general_213 : decode c_Mo_general 213 = .ok (.iload 9, 2) := by decide +kernel
theorem d_Mo_general_215 : decode c_Mo_general 215 = .ok (.iadd, 1) := by decide +kernel
theorem d_Mo_general_216 : decode c_Mo_general 216 = .ok (.iload 6, 2) := by decide +kernel
theorem d_Mo_general_218 : decode c_Mo_general 218 = .ok (.isub, 1) := by decide +kernel
theorem d_Mo_general_219 : decode c_Mo_general 219 = .ok (.aload_n 0, 1) := by decide +kernel
theorem d_Mo_general_220 : decode c_Mo_general 220 = .ok (.getfield 27, 3) := by decide +kernel
theorem d_Mo_general_223 : decode c_Mo_general 223 = .ok (.iload 9, 2) := by decide +kernel
theorem d_Mo_general_225 : decode c_Mo_general 225 = .ok (.iaload, 1) := by decide +kernel
theorem d_Mo_general_226 : decode c_Mo_general 226 = .ok (.iastore, 1) := by decide +kernel
theorem d_Mo_general_227 : decode c_Mo_general 227 = .ok (.iinc 9 1, 3) := by decide +kernel
theorem d_Mo_general_230 : decode c_Mo_general 230 = .ok (.goto (-32), 3) := by decide +kernel
theorem d_Mo_general_233 : decode c_Mo_general 233 = .ok (.aload_n 0, 1) := by decide +kernel
theorem d_Mo_general_234 : decode c_Mo_general 234 = .ok (.dup, 1) := by decide +kernel
theorem d_Mo_general_235 : decode c_Mo_general 235 = .ok (.getfield 156, 3) := by decide +kernel
theorem d_Mo_general_238 : decode c_Mo_general 238 = .ok (.iload 6, 2) := by decide +kernel
theorem d_Mo_general_240 : decode c_Mo_general 240 = .ok (.iload 8, 2) := by decide +kernel
theorem d_Mo_general_242 : decode c_Mo_general 242 = .ok (.isub, 1) := by decide +kernel
theorem d_Mo_general_243 : decode c_Mo_general 243 = .ok (.isub, 1) := by decide +kernel
theorem d_Mo_general_244 : decode c_Mo_general 244 = .ok (.putfield 156, 3) := by decide +kernel
theorem d_Mo_general_247 : decode c_Mo_general 247 = .ok (.return_, 1) := by decide +kernel
theorem d_Mo_hexadecimal_0 : decode c_Mo_hexadecimal 0 = .ok (.lload_n 1, 1) := by decide +kernel
theorem d_Mo_hexadecimal_1 : decode c_Mo_hexadecimal 1 = .ok (.bipush 52, 2) := by decide +kernel
theorem d_Mo_hexadecimal_3 : decode c_Mo_hexadecimal 3 = .ok (.lushr, 1) := by decide +kernel
theorem d_Mo_hexadecimal_4 : decode c_Mo_hexadecimal 4 = .ok (.l2i, 1) := by decide +kernel
theorem d_Mo_hexadecimal_5 : decode c_Mo_hexadecimal 5 = .ok (.sipush 2047, 3) := by decide +kernel
theorem d_Mo_hexadecimal_8 : decode c_Mo_hexadecimal 8 = .ok (.iand, 1) := by decide +kernel
theorem d_Mo_hexadecimal_9 : decode c_Mo_hexadecimal 9 = .ok (.istore 5, 2) := by decide +kernel
theorem d_Mo_hexadecimal_11 : decode c_Mo_hexadecimal 11 = .ok (.lload_n 1, 1) := by decide +kernel
theorem d_Mo_hexadecimal_12 : decode c_Mo_hexadecimal 12 = .ok (.ldc2_w 210, 3) := by decide +kernel
theorem d_Mo_hexadecimal_15 : decode c_Mo_hexadecimal 15 = .ok (.land, 1) := by decide +kernel
theorem d_Mo_hexadecimal_16 : decode c_Mo_hexadecimal 16 = .ok (.iload 5, 2) := by decide +kernel
theorem d_Mo_hexadecimal_18 : decode c_Mo_hexadecimal 18 = .ok (.ifCond .ne 7, 3) := by decide +kernel
theorem d_Mo_hexadecimal_21 : decode c_Mo_hexadecimal 21 = .ok (.lconst 0, 1) := by decide +kernel
theorem d_Mo_hexadecimal_22 : decode c_Mo_hexadecimal 22 = .ok (.goto 6, 3) := by decide +kernel
theorem d_Mo_hexadecimal_25 : decode c_Mo_hexadecimal 25 = .ok (.ldc2_w 212, 3) := by decide +kernel
theorem d_Mo_hexadecimal_28 : decode c_Mo_hexadecimal 28 = .ok (.lor, 1) := by decide +kernel
theorem d_Mo_hexadecimal_29 : decode c_Mo_hexadecimal 29 = .ok (.lstore 6, 2) := by decide +kernel
theorem d_Mo_hexadecimal_31 : decode c_Mo_hexadecimal 31 = .ok (.iload_n 3, 1) := by decide +kernel
theorem d_Mo_hexadecimal_32 : decode c_Mo_hexadecimal 32 = .ok (.ifCond .ge 8, 3) := by decide +kernel
theorem d_Mo_hexadecimal_35 : decode c_Mo_hexadecimal 35 = .ok (.bipush 13, 2) := by decide +kernel
theorem d_Mo_hexadecimal_37 : decode c_Mo_hexadecimal 37 = .ok (.goto 4, 3) := by decide +kernel
theorem d_Mo_hexadecimal_40 : decode c_Mo_hexadecimal 40 = .ok (.iload_n 3, 1) := by decide +kernel
theorem d_Mo_hexadecimal_41 : decode c_Mo_hexadecimal 41 = .ok (.istore 8, 2) := by decide +kernel
theorem d_Mo_hexadecimal_43 : decode c_Mo_hexadecimal 43 = .ok (.iload_n 3, 1) := by decide +kernel
theorem d_Mo_hexadecimal_44 : decode c_Mo_hexadecimal 44 = .ok (.ifCond .lt 81, 3) := by decide +kernel
theorem d_Mo_hexadecimal_47 : decode c_Mo_hexadecimal 47 = .ok (.iload_n 3, 1) := by decide +kernel
theorem d_Mo_hexadecimal_48 : decode c_Mo_hexadecimal 48 = .ok (.bipush 13, 2) := by decide +kernel
theorem d_Mo_hexadecimal_50 : decode c_Mo_hexadecimal 50 = .ok (.if_icmp .ge 75, 3) := by decide +kernel
theorem d_Mo_hexadecimal_53 : decode c_Mo_hexadecimal 53 = .ok (.bipush 52, 2) := by decide +kernel
theorem d_Mo_hexadecimal_55 : decode c_Mo_hexadecimal 55 = .ok (.iconst 4, 1) := by decide +kernel
theorem d_Mo_hexadecimal_56 : decode c_Mo_hexadecimal 56 = .ok (.iload_n 3, 1) := by decide +kernel
theorem d_Mo_hexadecimal_57 : decode c_Mo_hexadecimal 57 = .ok (.imul, 1) := by decide +kernel
theorem d_Mo_hexadecimal_58 : decode c_Mo_hexadecimal 58 = .ok (.isub, 1) := by decide +kernel
theorem d_Mo_hexadecimal_59 : decode c_Mo_hexadecimal 59 = .ok (.istore 9, 2) := by decide +kernel
theorem d_Mo_hexadecimal_61 : decode c_Mo_hexadecimal 61 = .ok (.lload 6, 2) := by decide +kernel
theorem d_Mo_hexadecimal_63 : decode c_Mo_hexadecimal 63 = .ok (.lconst 1, 1) := by decide +kernel
theorem d_Mo_hexadecimal_64 : decode c_Mo_hexadecimal 64 = .ok (.iload 9, 2) := by decide +kernel
theorem d_Mo_hexadecimal_66 : decode c_Mo_hexadecimal 66 = .ok (.lshl, 1) := by decide +kernel
theorem d_Mo_hexadecimal_67 : decode c_Mo_hexadecimal 67 = .ok (.lconst 1, 1) := by decide +kernel
theorem d_Mo_hexadecimal_68 : decode c_Mo_hexadecimal 68 = .ok (.lsub, 1) := by decide +kernel
theorem d_Mo_hexadecimal_69 : decode c_Mo_hexadecimal 69 = .ok (.land, 1) := by decide +kernel
theorem d_Mo_hexadecimal_70 : decode c_Mo_hexadecimal 70 = .ok (.lstore 10, 2) := by decide +kernel
theorem d_Mo_hexadecimal_72 : decode c_Mo_hexadecimal 72 = .ok (.lconst 1, 1) := by decide +kernel
theorem d_Mo_hexadecimal_73 : decode c_Mo_hexadecimal 73 = .ok (.iload 9, 2) := by decide +kernel
theorem d_Mo_hexadecimal_75 : decode c_Mo_hexadecimal 75 = .ok (.iconst 1, 1) := by decide +kernel
theorem d_Mo_hexadecimal_76 : decode c_Mo_hexadecimal 76 = .ok (.isub, 1) := by decide +kernel
theorem d_Mo_hexadecimal_77 : decode c_Mo_hexadecimal 77 = .ok (.lshl, 1) := by decide +kernel
theorem d_Mo_hexadecimal_78 : decode c_Mo_hexadecimal 78 = .ok (.lstore 12, 2) := by decide +kernel
theorem d_Mo_hexadecimal_80 : decode c_Mo_hexadecimal 80 = .ok (.lload 6, 2) := by decide +kernel
theorem d_Mo_hexadecimal_82 : decode c_Mo_hexadecimal 82 = .ok (.iload 9, 2) := by decide +kernel
theorem d_Mo_hexadecimal_84 : decode c_Mo_hexadecimal 84 = .ok (.lushr, 1) := by decide +kernel
theorem d_Mo_hexadecimal_85 : decode c_Mo_hexadecimal 85 = .ok (.lstore 6, 2) := by decide +kernel
theorem d_Mo_hexadecimal_87 : decode c_Mo_hexadecimal 87 = .ok (.lload 10, 2) := by decide +kernel
theorem d_Mo_hexadecimal_89 : decode c_Mo_hexadecimal 89 = .ok (.lload 12, 2) := by decide +kernel
theorem d_Mo_hexadecimal_91 : decode c_Mo_hexadecimal 91 = .ok (.lcmp, 1) := by decide +kernel
theorem d_Mo_hexadecimal_92 : decode c_Mo_hexadecimal 92 = .ok (.ifCond .gt 20, 3) := by decide +kernel
theorem d_Mo_hexadecimal_95 : decode c_Mo_hexadecimal 95 = .ok (.lload 10, 2) := by decide +kernel
theorem d_Mo_hexadecimal_97 : decode c_Mo_hexadecimal 97 = .ok (.lload 12, 2) := by decide +kernel
theorem d_Mo_hexadecimal_99 : decode c_Mo_hexadecimal 99 = .ok (.lcmp, 1) := by decide +kernel
theorem d_Mo_hexadecimal_100 : decode c_Mo_hexadecimal 100 = .ok (.ifCond .ne 18, 3) := by decide +kernel
theorem d_Mo_hexadecimal_103 : decode c_Mo_hexadecimal 103 = .ok (.lload 6, 2) := by decide +kernel
theorem d_Mo_hexadecimal_105 : decode c_Mo_hexadecimal 105 = .ok (.lconst 1, 1) := by decide +kernel
theorem d_Mo_hexadecimal_106 : decode c_Mo_hexadecimal 106 = .ok (.land, 1) := by decide +kernel
theorem d_Mo_hexadecimal_107 : decode c_Mo_hexadecimal 107 = .ok (.lconst 1, 1) := by decide +kernel
theorem d_Mo_hexadecimal_108 : decode c_Mo_hexadecimal 108 = .ok (.lcmp, 1) := by decide +kernel
theorem d_Mo_hexadecimal_109 : decode c_Mo_hexadecimal 109 = .ok (.ifCond .ne 9, 3) := by decide +kernel
theorem d_Mo_hexadecimal_112 : decode c_Mo_hexadecimal 112 = .ok (.lload 6, 2) := by decide +kernel
theorem d_Mo_hexadecimal_114 : decode c_Mo_hexadecimal 114 = .ok (.lconst 1, 1) := by decide +kernel
theorem d_Mo_hexadecimal_115 : decode c_Mo_hexadecimal 115 = .ok (.ladd, 1) := by decide +kernel
theorem d_Mo_hexadecimal_116 : decode c_Mo_hexadecimal 116 = .ok (.lstore 6, 2) := by decide +kernel
theorem d_Mo_hexadecimal_118 : decode c_Mo_hexadecimal 118 = .ok (.lload 6, 2) := by decide +kernel
theorem d_Mo_hexadecimal_120 : decode c_Mo_hexadecimal 120 = .ok (.iload 9, 2) := by decide +kernel
theorem d_Mo_hexadecimal_122 : decode c_Mo_hexadecimal 122 = .ok (.lshl, 1) := by decide +kernel
theorem d_Mo_hexadecimal_123 : decode c_Mo_hexadecimal 123 = .ok (.lstore 6, 2) := by decide +kernel
theorem d_Mo_hexadecimal_125 : decode c_Mo_hexadecimal 125 = .ok (.iload_n 3, 1) := by decide +kernel
theorem d_Mo_hexadecimal_126 : decode c_Mo_hexadecimal 126 = .ok (.ifCond .ge 33, 3) := by decide +kernel
theorem d_Mo_hexadecimal_129 : decode c_Mo_hexadecimal 129 = .ok (.iload 8, 2) := by decide +kernel
theorem d_Mo_hexadecimal_131 : decode c_Mo_hexadecimal 131 = .ok (.ifCond .le 28, 3) := by decide +kernel
theorem d_Mo_hexadecimal_134 : decode c_Mo_hexadecimal 134 = .ok (.lload 6, 2) := by decide +kernel
theorem d_Mo_hexadecimal_136 : decode c_Mo_hexadecimal 136 = .ok (.bipush 52, 2) := by decide +kernel
theorem d_Mo_hexadecimal_138 : decode c_Mo_hexadecimal 138 = .ok (.iconst 4, 1) := by decide +kernel
theorem d_Mo_hexadecimal_139 : decode c_Mo_hexadecimal 139 = .ok (.iload 8, 2) := by decide +kernel
theorem d_Mo_hexadecimal_141 : decode c_Mo_hexadecimal 141 = .ok (.imul, 1) := by decide +kernel
theorem d_Mo_hexadecimal_142 : decode c_Mo_hexadecimal 142 = .ok (.isub, 1) := by decide +kernel
theorem d_Mo_hexadecimal_143 : decode c_Mo_hexadecimal 143 = .ok (.lushr, 1) := by decide +kernel
theorem d_Mo_hexadecimal_144 : decode c_Mo_hexadecimal 144 = .ok (.ldc2_w 214, 3) := by decide +kernel
theorem d_Mo_hexadecimal_147 : decode c_Mo_hexadecimal 147 = .ok (.land, 1) := by decide +kernel
theorem d_Mo_hexadecimal_148 : decode c_Mo_hexadecimal 148 = .ok (.lconst 0, 1) := by decide +kernel
theorem d_Mo_hexadecimal_149 : decode c_Mo_hexadecimal 149 = .ok (.lcmp, 1) := by decide +kernel
theorem d_Mo_hexadecimal_150 : decode c_Mo_hexadecimal 150 = .ok (.ifCond .ne 9, 3) := by decide +kernel
theorem d_Mo_hexadecimal_153 : decode c_Mo_hexadecimal 153 = .ok (.iinc 8 (-1), 3) := by decide +kernel
theorem d_Mo_hexadecimal_156 : decode c_Mo_hexadecimal 156 = .ok (.goto (-27), 3) := by decide +kernel
theorem d_Mo_hexadecimal_159 : decode c_Mo_hexadecimal 159 = .ok (.aload_n 0, 1) := by decide +kernel
theorem d_Mo_hexadecimal_160 : decode c_Mo_hexadecimal 160 = .ok (.getfield 24, 3) := by decide +kernel
theorem d_Mo_hexadecimal_163 : decode c_Mo_hexadecimal 163 = .ok (.aload_n 0, 1) := by decide +kernel
theorem d_Mo_hexadecimal_164 : decode c_Mo_hexadecimal 164 = .ok (.dup, 1) := by decide +kernel
theorem d_Mo_hexadecimal_165 : decode c_Mo_hexadecimal 165 = .ok (.getfield 153, 3) := by decide +kernel
theorem d_Mo_hexadecimal_168 : decode c_Mo_hexadecimal 168 = .ok (.dup_x1, 1) := by decide +kernel
theorem d_Mo_hexadecimal_169 : decode c_Mo_hexadecimal 169 = .ok (.iconst 1, 1) := by decide +kernel
theorem d_Mo_hexadecimal_170 : decode c_Mo_hexadecimal 170 = .ok (.iadd, 1) := by decide +kernel
theorem d_Mo_hexadecimal_171 : decode c_Mo_hexadecimal 171 = .ok (.putfield 153, 3) := by decide +kernel
theorem d_Mo_hexadecimal_174 : decode c_Mo_hexadecimal 174 = .ok (.bipush 48, 2) := by decide +kernel
theorem d_Mo_hexadecimal_176 : decode c_Mo_hexadecimal 176 = .ok (.iastore, 1) := by decide +kernel
theorem d_Mo_hexadecimal_177 : decode c_Mo_hexadecimal 177 = .ok (.aload_n 0, 1) := by decide +kernel
theorem d_Mo_hexadecimal_178 : decode c_Mo_hexadecimal 178 = .ok (.getfield 24, 3) := by decide +kernel
theorem d_Mo_hexadecimal_181 : decode c_Mo_hexadecimal 181 = .ok (.aload_n 0, 1) := by decide +kernel
theorem d_Mo_hexadecimal_182 : decode c_Mo_hexadecimal 182 = .ok (.dup, 1) := by decide +kernel
theorem d_Mo_hexadecimal_183 : decode c_Mo_hexadecimal 183 = .ok (.getfield 153, 3) := by decide +kernel
theorem d_Mo_hexadecimal_186 : decode c_Mo_hexadecimal 186 = .ok (.dup_x1, 1) := by decide +kernel
theorem d_Mo_hexadecimal_187 : decode c_Mo_hexadecimal 187 = .ok (.iconst 1, 1) := by decide +kernel
theorem d_Mo_hexadecimal_188 : decode c_Mo_hexadecimal 188 = .ok (.iadd, 1) := by decide +kernel
theorem d_Mo_hexadecimal_189 : decode c_Mo_hexadecimal 189 = .ok (.putfield 153, 3) := by decide +kernel
theorem d_Mo_hexadecimal_192 : decode c_Mo_hexadecimal 192 = .ok (.iload 4, 2) := by decide +kernel
theorem d_Mo_hexadecimal_194 : decode c_Mo_hexadecimal 194 = .ok (.ifCond .eq 8, 3) := by decide +kernel
theorem d_Mo_hexadecimal_197 : decode c_Mo_hexadecimal 197 = .ok (.bipush 88, 2) := by decide +kernel
theorem d_Mo_hexadecimal_199 : decode c_Mo_hexadecimal 199 = .ok (.goto 5, 3) := by decide +kernel
theorem d_Mo_hexadecimal_202 : decode c_Mo_hexadecimal 202 = .ok (.bipush 120, 2) := by decide +kernel
theorem d_Mo_hexadecimal_204 : decode c_Mo_hexadecimal 204 = .ok (.iastore, 1) := by decide +kernel
theorem d_Mo_hexadecimal_205 : decode c_Mo_hexadecimal 205 = .ok (.aload_n 0, 1) := by decide +kernel
theorem d_Mo_hexadecimal_206 : decode c_Mo_hexadecimal 206 = .ok (.bipush 48, 2) := by decide +kernel
theorem d_Mo_hexadecimal_208 : decode c_Mo_hexadecimal 208 = .ok (.lload 6, 2) := by decide +kernel
theorem d_Mo_hexadecimal_210 : decode c_Mo_hexadecimal 210 = .ok (.bipush 52, 2) := by decide +kernel
theorem d_Mo_hexadecimal_212 : decode c_Mo_hexadecimal 212 = .ok (.lushr, 1) := by decide +kernel
theorem d_Mo_hexadecimal_213 : decode c_Mo_hexadecimal 213 = .ok (.l2i, 1) := by decide +kernel
theorem d_Mo_hexadecimal_214 : decode c_Mo_hexadecimal 214 = .ok (.iadd, 1) := by decide +kernel
theorem d_Mo_hexadecimal_215 : decode c_Mo_hexadecimal 215 = .ok (.invokevirtual 162, 3) := by decide +kernel
theorem d_Mo_hexadecimal_218 : decode c_Mo_hexadecimal 218 = .ok (.iload 8, 2) := by decide +kernel
theorem d_Mo_hexadecimal_220 : decode c_Mo_hexadecimal 220 = .ok (.ifCond .gt 10, 3) := by decide +kernel
theorem d_Mo_hexadecimal_223 : decode c_Mo_hexadecimal 223 = .ok (.aload_n 0, 1) := by decide +kernel
theorem d_Mo_hexadecimal_224 : decode c_Mo_hexadecimal 224 = .ok (.getfield 79, 3) := by decide +kernel
theorem d_Mo_hexadecimal_227 : decode c_Mo_hexadecimal 227 = .ok (.ifCond .eq 9, 3) := by decide +kernel
theorem d_Mo_hexadecimal_230 : decode c_Mo_hexadecimal 230 = .ok (.aload_n 0, 1) := by decide +kernel
theorem d_Mo_hexadecimal_231 : decode c_Mo_hexadecimal 231 = .ok (.bipush 46, 2) := by decide +kernel
theorem d_Mo_hexadecimal_233 : decode c_Mo_hexadecimal 233 = .ok (.invokevirtual 162, 3) := by decide +kernel
theorem d_Mo_hexadecimal_236 : decode c_Mo_hexadecimal 236 = .ok (.iconst 1, 1) := by decide +kernel
theorem d_Mo_hexadecimal_237 : decode c_Mo_hexadecimal 237 = .ok (.istore 9, 2) := by decide +kernel
theorem d_Mo_hexadecimal_239 : decode c_Mo_hexadecimal 239 = .ok (.iload 9, 2) := by decide +kernel
theorem d_Mo_hexadecimal_241 : decode c_Mo_hexadecimal 241 = .ok (.iload 8, 2) := by decide +kernel
theorem d_Mo_hexadecimal_243 : decode c_Mo_hexadecimal 243 = .ok (.if_icmp .gt 44, 3) := by decide +kernel
theorem d_Mo_hexadecimal_246 : decode c_Mo_hexadecimal 246 = .ok (.aload_n 0, 1) := by decide +kernel
theorem d_Mo_hexadecimal_247 : decode c_Mo_hexadecimal 247 = .ok (.iload 9, 2) := by decide +kernel
theorem d_Mo_hexadecimal_249 : decode c_Mo_hexadecimal 249 = .ok (.bipush 13, 2) := by decide +kernel
theorem d_Mo_hexadecimal_251 : decode c_Mo_hexadecimal 251 = .ok (.if_icmp .le 8, 3) := by decide +kernel
theorem d_Mo_hexadecimal_254 : decode c_Mo_hexadecimal 254 = .ok (.bipush 48, 2) := by decide +kernel
theorem d_Mo_hexadecimal_256 : decode c_Mo_hexadecimal 256 = .ok (.goto 22, 3) := by decide +kernel
theorem d_Mo_hexadecimal_259 : decode c_Mo_hexadecimal 259 = .ok (.lload 6, 2) := by decide +kernel
theorem d_Mo_hexadecimal_261 : decode c_Mo_hexadecimal 261 = .ok (.bipush 52, 2) := by decide +kernel
theorem d_Mo_hexadecimal_263 : decode c_Mo_hexadecimal 263 = .ok (.iconst 4, 1) := by decide +kernel
theorem d_Mo_hexadecimal_264 : decode c_Mo_hexadecimal 264 = .ok (.iload 9, 2) := by decide +kernel
theorem d_Mo_hexadecimal_266 : decode c_Mo_hexadecimal 266 = .ok (.imul, 1) := by decide +kernel
theorem d_Mo_hexadecimal_267 : decode c_Mo_hexadecimal 267 = .ok (.isub, 1) := by decide +kernel
theorem d_Mo_hexadecimal_268 : decode c_Mo_hexadecimal 268 = .ok (.lushr, 1) := by decide +kernel
theorem d_Mo_hexadecimal_269 : decode c_Mo_hexadecimal 269 = .ok (.l2i, 1) := by decide +kernel
theorem d_Mo_hexadecimal_270 : decode c_Mo_hexadecimal 270 = .ok (.bipush 15, 2) := by decide +kernel
theorem d_Mo_hexadecimal_272 : decode c_Mo_hexadecimal 272 = .ok (.iand, 1) := by decide +kernel
theorem d_Mo_hexadecimal_273 : decode c_Mo_hexadecimal 273 = .ok (.iload 4, 2) := by decide +kernel
theorem d_Mo_hexadecimal_275 : decode c_Mo_hexadecimal 275 = .ok (.invokestatic 185, 3) := by decide +kernel
theorem d_Mo_hexadecimal_278 : decode c_Mo_hexadecimal 278 = .ok (.invokevirtual 162, 3) := by decide +kernel
theorem d_Mo_hexadecimal_281 : decode c_Mo_hexadecimal 281 = .ok (.iinc 9 1, 3) := by decide +kernel
theorem d_Mo_hexadecimal_284 : decode c_Mo_hexadecimal 284 = .ok (.goto (-45), 3) := by decide +kernel
theorem d_Mo_hexadecimal_287 : decode c_Mo_hexadecimal 287 = .ok (.lload_n 1, 1) := by decide +kernel
theorem d_Mo_hexadecimal_288 : decode c_Mo_hexadecimal 288 = .ok (.ldc2_w 216, 3) := by decide +kernel
theorem d_Mo_hexadecimal_291 : decode c_Mo_hexadecimal 291 = .ok (.land, 1) := by decide +kernel
theorem d_Mo_hexadecimal_292 : decode c_Mo_hexadecimal 292 = .ok (.lconst 0, 1) := by decide +kernel
theorem d_Mo_hexadecimal_293 : decode c_Mo_hexadecimal 293 = .ok (.lcmp, 1) := by decide +kernel
theorem d_Mo_hexadecimal_294 : decode c_Mo_hexadecimal 294 = .ok (.ifCond .ne 7, 3) := by decide +kernel
theorem d_Mo_hexadecimal_297 : decode c_Mo_hexadecimal 297 = .ok (.iconst 0, 1) := by decide +kernel
theorem d_Mo_hexadecimal_298 : decode c_Mo_hexadecimal 298 = .ok (.goto 20, 3) := by decide +kernel
theorem d_Mo_hexadecimal_301 : decode c_Mo_hexadecimal 301 = .ok (.iload 5, 2) := by decide +kernel
theorem d_Mo_hexadecimal_303 : decode c_Mo_hexadecimal 303 = .ok (.ifCond .ne 9, 3) := by decide +kernel
theorem d_Mo_hexadecimal_306 : decode c_Mo_hexadecimal 306 = .ok (.sipush (-1022), 3) := by decide +kernel
theorem d_Mo_hexadecimal_309 : decode c_Mo_hexadecimal 309 = .ok (.goto 9, 3) := by decide +kernel
theorem d_Mo_hexadecimal_312 : decode c_Mo_hexadecimal 312 = .ok (.iload 5, 2) := by decide +kernel
theorem d_Mo_hexadecimal_314 : decode c_Mo_hexadecimal 314 = .ok (.sipush 1023, 3) := by decide +kernel
theorem d_Mo_hexadecimal_317 : decode c_Mo_hexadecimal 317 = .ok (.isub, 1) := by decide +kernel
theorem d_Mo_hexadecimal_318 : decode c_Mo_hexadecimal 318 = .ok (.istore 9, 2) := by decide +kernel
theorem d_Mo_hexadecimal_320 : decode c_Mo_hexadecimal 320 = .ok (.iload 9, 2) := by decide +kernel
theorem d_Mo_hexadecimal_322 : decode c_Mo_hexadecimal 322 = .ok (.ifCond .ge 9, 3) := by decide +kernel
theorem d_Mo_hexadecimal_325 : decode c_Mo_hexadecimal 325 = .ok (.iload 9, 2) := by decide +kernel
theorem d_Mo_hexadecimal_327 : decode c_Mo_hexadecimal 327 = .ok (.ineg, 1) := by decide +kernel
theorem d_Mo_hexadecimal_328 : decode c_Mo_hexadecimal 328 = .ok (.goto 5, 3) := by decide +kernel
theorem d_Mo_hexadecimal_331 : decode c_Mo_hexadecimal 331 = .ok (.iload 9, 2) := by decide +kernel
theorem d_Mo_hexadecimal_333 : decode c_Mo_hexadecimal 333 = .ok (.istore 10, 2) := by decide +kernel
theorem d_Mo_hexadecimal_335 : decode c_Mo_hexadecimal 335 = .ok (.aload_n 0, 1) := by decide +kernel
theorem d_Mo_hexadecimal_336 : decode c_Mo_hexadecimal 336 = .ok (.iload 4, 2) := by decide +kernel
theorem d_Mo_hexadecimal_338 : decode c_Mo_hexadecimal 338 = .ok (.ifCond .eq 8, 3) := by decide +kernel
theorem d_Mo_hexadecimal_341 : decode c_Mo_hexadecimal 341 = .ok (.bipush 80, 2) := by decide +kernel
theorem d_Mo_hexadecimal_343 : decode c_Mo_hexadecimal 343 = .ok (.goto 5, 3) := by decide +kernel
theorem d_Mo_hexadecimal_346 : decode c_Mo_hexadecimal 346 = .ok (.bipush 112, 2) := by decide +kernel
theorem d_Mo_hexadecimal_348 : decode c_Mo_hexadecimal 348 = .ok (.invokevirtual 162, 3) := by decide +kernel
theorem d_Mo_hexadecimal_351 : decode c_Mo_hexadecimal 351 = .ok (.aload_n 0, 1) := by decide +kernel
theorem d_Mo_hexadecimal_352 : decode c_Mo_hexadecimal 352 = .ok (.iload 9, 2) := by decide +kernel
theorem d_Mo_hexadecimal_354 : decode c_Mo_hexadecimal 354 = .ok (.ifCond .ge 8, 3) := by decide +kernel
theorem d_Mo_hexadecimal_357 : decode c_Mo_hexadecimal 357 = .ok (.bipush 45, 2) := by decide +kernel
theorem d_Mo_hexadecimal_359 : decode c_Mo_hexadecimal 359 = .ok (.goto 5, 3) := by decide +kernel
theorem d_Mo_hexadecimal_362 : decode c_Mo_hexadecimal 362 = .ok (.bipush 43, 2) := by decide +kernel
theorem d_Mo_hexadecimal_364 : decode c_Mo_hexadecimal 364 = .ok (.invokevirtual 162, 3) := by decide +kernel
theorem d_Mo_hexadecimal_367 : decode c_Mo_hexadecimal 367 = .ok (.iload 10, 2) := by decide +kernel
theorem d_Mo_hexadecimal_369 : decode c_Mo_hexadecimal 369 = .ok (.sipush 999, 3) := by decide +kernel
theorem d_Mo_hexadecimal_372 : decode c_Mo_hexadecimal 372 = .ok (.if_icmp .le 16, 3) := by decide +kernel
theorem d_Mo_hexadecimal_375 : decode c_Mo_hexadecimal 375 = .ok (.aload_n 0, 1) := by decide +kernel
theorem d_Mo_hexadecimal_376 : decode c_Mo_hexadecimal 376 = .ok (.bipush 48, 2) := by decide +kernel
theorem d_Mo_hexadecimal_378 : decode c_Mo_hexadecimal 378 = .ok (.iload 10, 2) := by decide +kernel
theorem d_Mo_hexadecimal_380 : decode c_Mo_hexadecimal 380 = .ok (.sipush 1000, 3) := by decide +kernel
theorem d_Mo_hexadecimal_383 : decode c_Mo_hexadecimal 383 = .ok (.idiv, 1) := by decide +kernel
theorem d_Mo_hexadecimal_384 : decode c_Mo_hexadecimal 384 = .ok (.iadd, 1) := by decide +kernel
theorem d_Mo_hexadecimal_385 : decode c_Mo_hexadecimal 385 = .ok (.invokevirtual 162, 3) := by decide +kernel
theorem d_Mo_hexadecimal_388 : decode c_Mo_hexadecimal 388 = .ok (.iload 10, 2) := by decide +kernel
theorem d_Mo_hexadecimal_390 : decode c_Mo_hexadecimal 390 = .ok (.bipush 99, 2) := by decide +kernel
theorem d_Mo_hexadecimal_392 : decode c_Mo_hexadecimal 392 = .ok (.if_icmp .le 18, 3) := by decide +kernel
theorem d_Mo_hexadecimal_395 : decode c_Mo_hexadecimal 395 = .ok (.aload_n 0, 1) := by decide +kernel
theorem d_Mo_hexadecimal_396 : decode c_Mo_hexadecimal 396 = .ok (.bipush 48, 2) := by decide +kernel
theorem d_Mo_hexadecimal_398 : decode c_Mo_hexadecimal 398 = .ok (.iload 10, 2) := by decide +kernel
theorem d_Mo_hexadecimal_400 : decode c_Mo_hexadecimal 400 = .ok (.bipush 100, 2) := by decide +kernel
theorem d_Mo_hexadecimal_402 : decode c_Mo_hexadecimal 402 = .ok (.idiv, 1) := by decide +kernel
theorem d_Mo_hexadecimal_403 : decode c_Mo_hexadecimal 403 = .ok (.bipush 10, 2) := by decide +kernel
theorem d_Mo_hexadecimal_405 : decode c_Mo_hexadecimal 405 = .ok (.irem, 1) := by decide +kernel
theorem d_Mo_hexadecimal_406 : decode c_Mo_hexadecimal 406 = .ok (.iadd, 1) := by decide +kernel
theorem d_Mo_hexadecimal_407 : decode c_Mo_hexadecimal 407 = .ok (.invokevirtual 162, 3) := by decide +kernel
theorem d_Mo_hexadecimal_410 : decode c_Mo_hexadecimal 410 = .ok (.iload 10, 2) := by decide +kernel
theorem d_Mo_hexadecimal_412 : decode c_Mo_hexadecimal 412 = .ok (.bipush 9, 2) := by decide +kernel
theorem d_Mo_hexadecimal_414 : decode c_Mo_hexadecimal 414 = .ok (.if_icmp .le 18, 3) := by decide +kernel
theorem d_Mo_hexadecimal_417 : decode c_Mo_hexadecimal 417 = .ok (.aload_n 0, 1) := by decide +kernel
theorem d_Mo_hexadecimal_418 : decode c_Mo_hexadecimal 418 = .ok (.bipush 48, 2) := by decide +kernel
theorem d_Mo_hexadecimal_420 : decode c_Mo_hexadecimal 420 = .ok (.iload 10, 2) := by decide +kernel
theorem d_Mo_hexadecimal_422 : decode c_Mo_hexadecimal 422 = .ok (.bipush 10, 2) := by decide +kernel
theorem d_Mo_hexadecimal_424 : decode c_Mo_hexadecimal 424 = .ok (.idiv, 1) := by decide +kernel
theorem d_Mo_hexadecimal_425 : decode c_Mo_hexadecimal 425 = .ok (.bipush 10, 2) := by decide +kernel
theorem d_Mo_hexadecimal_427 : decode c_Mo_hexadecimal 427 = .ok (.irem, 1) := by decide +kernel
theorem d_Mo_hexadecimal_428 : decode c_Mo_hexadecimal 428 = .ok (.iadd, 1) := by decide +kernel
theorem d_Mo_hexadecimal_429 : decode c_Mo_hexadecimal 429 = .ok (.invokevirtual 162, 3) := by decide +kernel
theorem d_Mo_hexadecimal_432 : decode c_Mo_hexadecimal 432 = .ok (.aload_n 0, 1) := by decide +kernel
theorem d_Mo_hexadecimal_433 : decode c_Mo_hexadecimal 433 = .ok (.bipush 48, 2) := by decide +kernel
theorem d_Mo_hexadecimal_435 : decode c_Mo_hexadecimal 435 = .ok (.iload 10, 2) := by decide +kernel
theorem d_Mo_hexadecimal_437 : decode c_Mo_hexadecimal 437 = .ok (.bipush 10, 2) := by decide +kernel
theorem d_Mo_hexadecimal_439 : decode c_Mo_hexadecimal 439 = .ok (.irem, 1) := by decide +kernel
theorem d_Mo_hexadecimal_440 : decode c_Mo_hexadecimal 440 = .ok (.iadd, 1) := by decide +kernel
theorem d_Mo_hexadecimal_441 : decode c_Mo_hexadecimal 441 = .ok (.invokevirtual 162, 3) := by decide +kernel
theorem d_Mo_hexadecimal_444 : decode c_Mo_hexadecimal 444 = .ok (.return_, 1) := by decide +kernel
theorem d_Mo_real_0 : decode c_Mo_real 0 = .ok (.iload_n 1, 1) := by decide +kernel
theorem d_Mo_real_1 : decode c_Mo_real 1 = .ok (.bipush 97, 2) := by decide +kernel
theorem d_Mo_real_3 : decode c_Mo_real 3 = .ok (.if_icmp .ge 7, 3) := by decide +kernel
theorem d_Mo_real_6 : decode c_Mo_real 6 = .ok (.iconst 1, 1) := by decide +kernel
theorem d_Mo_real_7 : decode c_Mo_real 7 = .ok (.goto 4, 3) := by decide +kernel
theorem d_Mo_real_10 : decode c_Mo_real 10 = .ok (.iconst 0, 1) := by decide +kernel
theorem d_Mo_real_11 : decode c_Mo_real 11 = .ok (.istore 4, 2) := by decide +kernel
theorem d_Mo_real_13 : decode c_Mo_real 13 = .ok (.iload 4, 2) := by decide +kernel
theorem d_Mo_real_15 : decode c_Mo_real 15 = .ok (.ifCond .eq 10, 3) := by decide +kernel
theorem d_Mo_real_18 : decode c_Mo_real 18 = .ok (.iload_n 1, 1) := by decide +kernel
theorem d_Mo_real_19 : decode c_Mo_real 19 = .ok (.bipush 32, 2) := by decide +kernel
theorem d_Mo_real_21 : decode c_Mo_real 21 = .ok (.iadd, 1) := by decide +kernel
theorem d_Mo_real_22 : decode c_Mo_real 22 = .ok (.goto 4, 3) := by decide +kernel
theorem d_Mo_real_25 : decode c_Mo_real 25 = .ok (.iload_n 1, 1) := by decide +kernel
theorem d_Mo_real_26 : decode c_Mo_real 26 = .ok (.istore 5, 2) := by decide +kernel
theorem d_Mo_real_28 : decode c_Mo_real 28 = .ok (.lload_n 2, 1) := by decide +kernel
theorem d_Mo_real_29 : decode c_Mo_real 29 = .ok (.bipush 52, 2) := by decide +kernel
theorem d_Mo_real_31 : decode c_Mo_real 31 = .ok (.lushr, 1) := by decide +kernel
theorem d_Mo_real_32 : decode c_Mo_real 32 = .ok (.l2i, 1) := by decide +kernel
theorem d_Mo_real_33 : decode c_Mo_real 33 = .ok (.sipush 2047, 3) := by decide +kernel
theorem d_Mo_real_36 : decode c_Mo_real 36 = .ok (.iand, 1) := by decide +kernel
theorem d_Mo_real_37 : decode c_Mo_real 37 = .ok (.istore 6, 2) := by decide +kernel
theorem d_Mo_real_39 : decode c_Mo_real 39 = .ok (.lload_n 2, 1) := by decide +kernel
theorem d_Mo_real_40 : decode c_Mo_real 40 = .ok (.ldc2_w 210, 3) := by decide +kernel
theorem d_Mo_real_43 : decode c_Mo_real 43 = .ok (.land, 1) := by decide +kernel
theorem d_Mo_real_44 : decode c_Mo_real 44 = .ok (.lstore 7, 2) := by decide +kernel
theorem d_Mo_real_46 : decode c_Mo_real 46 = .ok (.aload_n 0, 1) := by decide +kernel
theorem d_Mo_real_47 : decode c_Mo_real 47 = .ok (.lload_n 2, 1) := by decide +kernel
theorem d_Mo_real_48 : decode c_Mo_real 48 = .ok (.lconst 0, 1) := by decide +kernel
theorem d_Mo_real_49 : decode c_Mo_real 49 = .ok (.lcmp, 1) := by decide +kernel
theorem d_Mo_real_50 : decode c_Mo_real 50 = .ok (.ifCond .ge 7, 3) := by decide +kernel
theorem d_Mo_real_53 : decode c_Mo_real 53 = .ok (.iconst 1, 1) := by decide +kernel
theorem d_Mo_real_54 : decode c_Mo_real 54 = .ok (.goto 4, 3) := by decide +kernel
theorem d_Mo_real_57 : decode c_Mo_real 57 = .ok (.iconst 0, 1) := by decide +kernel
theorem d_Mo_real_58 : decode c_Mo_real 58 = .ok (.invokevirtual 181, 3) := by decide +kernel
theorem d_Mo_real_61 : decode c_Mo_real 61 = .ok (.iload 6, 2) := by decide +kernel
theorem d_Mo_real_63 : decode c_Mo_real 63 = .ok (.sipush 2047, 3) := by decide +kernel
theorem d_Mo_real_66 : decode c_Mo_real 66 = .ok (.if_icmp .ne 66, 3) := by decide +kernel
theorem d_Mo_real_69 : decode c_Mo_real 69 = .ok (.lload 7, 2) := by decide +kernel
theorem d_Mo_real_71 : decode c_Mo_real 71 = .ok (.lconst 0, 1) := by decide +kernel
theorem d_Mo_real_72 : decode c_Mo_real 72 = .ok (.lcmp, 1) := by decide +kernel
theorem d_Mo_real_73 : decode c_Mo_real 73 = .ok (.ifCond .ne 18, 3) := by decide +kernel
theorem d_Mo_real_76 : decode c_Mo_real 76 = .ok (.iload 4, 2) := by decide +kernel
theorem d_Mo_real_78 : decode c_Mo_real 78 = .ok (.ifCond .eq 8, 3) := by decide +kernel
theorem d_Mo_real_81 : decode c_Mo_real 81 = .ok (.ldc 218, 2) := by decide +kernel
theorem d_Mo_real_83 : decode c_Mo_real 83 = .ok (.goto 20, 3) := by decide +kernel
theorem d_Mo_real_86 : decode c_Mo_real 86 = .ok (.ldc 220, 2) := by decide +kernel
theorem d_Mo_real_88 : decode c_Mo_real 88 = .ok (.goto 15, 3) := by decide +kernel
theorem d_Mo_real_91 : decode c_Mo_real 91 = .ok (.iload 4, 2) := by decide +kernel
theorem d_Mo_real_93 : decode c_Mo_real 93 = .ok (.ifCond .eq 8, 3) := by decide +kernel
theorem d_Mo_real_96 : decode c_Mo_real 96 = .ok (.ldc 222, 2) := by decide +kernel
theorem d_Mo_real_98 : decode c_Mo_real 98 = .ok (.goto 5, 3) := by decide +kernel
theorem d_Mo_real_101 : decode c_Mo_real 101 = .ok (.ldc 224, 2) := by decide +kernel
theorem d_Mo_real_103 : decode c_Mo_real 103 = .ok (.astore 9, 2) := by decide +kernel
theorem d_Mo_real_105 : decode c_Mo_real 105 = .ok (.iconst 0, 1) := by decide +kernel
theorem d_Mo_real_106 : decode c_Mo_real 106 = .ok (.istore 10, 2) := by decide +kernel
theorem d_Mo_real_108 : decode c_Mo_real 108 = .ok (.iload 10, 2) := by decide +kernel
theorem d_Mo_real_110 : decode c_Mo_real 110 = .ok (.iconst 3, 1) := by decide +kernel
theorem d_Mo_real_111 : decode c_Mo_real 111 = .ok (.if_icmp .ge 20, 3) := by decide +kernel
theorem d_Mo_real_114 : decode c_Mo_real 114 = .ok (.aload_n 0, 1) := by decide +kernel
theorem d_Mo_real_115 : decode c_Mo_real 115 = .ok (.aload 9, 2) := by decide +kernel
theorem d_Mo_real_117 : decode c_Mo_real 117 = .ok (.iload 10, 2) := by decide +kernel
theorem d_Mo_real_119 : decode c_Mo_real 119 = .ok (.invokevirtual 108, 3) := by decide +kernel
theorem d_Mo_real_122 : decode c_Mo_real 122 = .ok (.invokevirtual 162, 3) := by decide +kernel
theorem d_Mo_real_125 : decode c_Mo_real 125 = .ok (.iinc 10 1, 3) := by decide +kernel
theorem d_Mo_real_128 : decode c_Mo_real 128 = .ok (.goto (-20), 3) := by decide +kernel
theorem d_Mo_real_131 : decode c_Mo_real 131 = .ok (.return_, 1) := by decide +kernel
theorem d_Mo_real_132 : decode c_Mo_real 132 = .ok (.aload_n 0, 1) := by decide +kernel
theorem d_Mo_real_133 : decode c_Mo_real 133 = .ok (.aload_n 0, 1) := by decide +kernel
theorem d_Mo_real_134 : decode c_Mo_real 134 = .ok (.getfield 82, 3) := by decide +kernel
theorem d_Mo_real_137 : decode c_Mo_real 137 = .ok (.ifCond .eq 14, 3) := by decide +kernel
theorem d_Mo_real_140 : decode c_Mo_real 140 = .ok (.aload_n 0, 1) := by decide +kernel
theorem d_Mo_real_141 : decode c_Mo_real 141 = .ok (.getfield 69, 3) := by decide +kernel
theorem d_Mo_real_144 : decode c_Mo_real 144 = .ok (.ifCond .ne 7, 3) := by decide +kernel
theorem d_Mo_real_147 : decode c_Mo_real 147 = .ok (.iconst 1, 1) := by decide +kernel
theorem d_Mo_real_148 : decode c_Mo_real 148 = .ok (.goto 4, 3) := by decide +kernel
theorem d_Mo_real_151 : decode c_Mo_real 151 = .ok (.iconst 0, 1) := by decide +kernel
theorem d_Mo_real_152 : decode c_Mo_real 152 = .ok (.putfield 159, 3) := by decide +kernel
theorem d_Mo_real_155 : decode c_Mo_real 155 = .ok (.iload 5, 2) := by decide +kernel
theorem d_Mo_real_157 : decode c_Mo_real 157 = .ok (.bipush 97, 2) := by decide +kernel
theorem d_Mo_real_159 : decode c_Mo_real 159 = .ok (.if_icmp .ne 15, 3) := by decide +kernel
theorem d_Mo_real_162 : decode c_Mo_real 162 = .ok (.aload_n 0, 1) := by decide +kernel
theorem d_Mo_real_163 : decode c_Mo_real 163 = .ok (.lload_n 2, 1) := by decide +kernel
theorem d_Mo_real_164 : decode c_Mo_real 164 = .ok (.aload_n 0, 1) := by decide +kernel
theorem d_Mo_real_165 : decode c_Mo_real 165 = .ok (.getfield 94, 3) := by decide +kernel
theorem d_Mo_real_168 : decode c_Mo_real 168 = .ok (.iload 4, 2) := by decide +kernel
theorem d_Mo_real_170 : decode c_Mo_real 170 = .ok (.invokevirtual 226, 3) := by decide +kernel
theorem d_Mo_real_173 : decode c_Mo_real 173 = .ok (.return_, 1) := by decide +kernel
theorem d_Mo_real_174 : decode c_Mo_real 174 = .ok (.aload_n 0, 1) := by decide +kernel
theorem d_Mo_real_175 : decode c_Mo_real 175 = .ok (.iload 6, 2) := by decide +kernel
theorem d_Mo_real_177 : decode c_Mo_real 177 = .ok (.ifCond .ne 8, 3) := by decide +kernel
theorem d_Mo_real_180 : decode c_Mo_real 180 = .ok (.lload 7, 2) := by decide +kernel
theorem d_Mo_real_182 : decode c_Mo_real 182 = .ok (.goto 9, 3) := by decide +kernel
theorem d_Mo_real_185 : decode c_Mo_real 185 = .ok (.lload 7, 2) := by decide +kernel
theorem d_Mo_real_187 : decode c_Mo_real 187 = .ok (.ldc2_w 212, 3) := by decide +kernel
theorem d_Mo_real_190 : decode c_Mo_real 190 = .ok (.lor, 1) := by decide +kernel
theorem d_Mo_real_191 : decode c_Mo_real 191 = .ok (.iload 6, 2) := by decide +kernel
theorem d_Mo_real_193 : decode c_Mo_real 193 = .ok (.ifCond .ne 9, 3) := by decide +kernel
theorem d_Mo_real_196 : decode c_Mo_real 196 = .ok (.sipush (-1074), 3) := by decide +kernel
theorem d_Mo_real_199 : decode c_Mo_real 199 = .ok (.goto 9, 3) := by decide +kernel
theorem d_Mo_real_202 : decode c_Mo_real 202 = .ok (.iload 6, 2) := by decide +kernel
theorem d_Mo_real_204 : decode c_Mo_real 204 = .ok (.sipush 1075, 3) := by decide +kernel
theorem d_Mo_real_207 : decode c_Mo_real 207 = .ok (.isub, 1) := by decide +kernel
theorem d_Mo_real_208 : decode c_Mo_real 208 = .ok (.invokevirtual 230, 3) := by decide +kernel
theorem d_Mo_real_211 : decode c_Mo_real 211 = .ok (.aload_n 0, 1) := by decide +kernel
theorem d_Mo_real_212 : decode c_Mo_real 212 = .ok (.getfield 94, 3) := by decide +kernel
theorem d_Mo_real_215 : decode c_Mo_real 215 = .ok (.ifCond .ge 8, 3) := by decide +kernel
end
section
theorem d_Mo_real_218 : decode c_Mo_real 218 = .ok (.bipush 6, 2) := by decide +kernel
theorem d_Mo_real_220 : decode c_Mo_real 220 = .ok (.goto 7, 3) := by decide +kernel
theorem d_Mo_real_223 : decode c_Mo_real 223 = .ok (.aload_n 0, 1) := by decide +kernel
theorem d_Mo_real_224 : decode c_Mo_real 224 = .ok (.getfield 94, 3) := by decide +kernel
theorem d_Mo_real_227 : decode c_Mo_real 227 = .ok (.istore 9, 2) := by decide +kernel
theorem d_Mo_real_229 : decode c_Mo_real 229 = .ok (.iload 5, 2) := by decide +kernel
theorem d_Mo_real_231 : decode c_Mo_real 231 = .ok (.bipush 102, 2) := by decide +kernel
theorem d_Mo_real_233 : decode c_Mo_real 233 = .ok (.if_icmp .ne 12, 3) := by decide +kernel
theorem d_Mo_real_236 : decode c_Mo_real 236 = .ok (.aload_n 0, 1) := by decide +kernel
theorem d_Mo_real_237 : decode c_Mo_real 237 = .ok (.iload 9, 2) := by decide +kernel
theorem d_Mo_real_239 : decode c_Mo_real 239 = .ok (.invokevirtual 203, 3) := by decide +kernel
theorem d_Mo_real_242 : decode c_Mo_real 242 = .ok (.goto 29, 3) := by decide +kernel
theorem d_Mo_real_245 : decode c_Mo_real 245 = .ok (.iload 5, 2) := by decide +kernel
theorem d_Mo_real_247 : decode c_Mo_real 247 = .ok (.bipush 101, 2) := by decide +kernel
theorem d_Mo_real_249 : decode c_Mo_real 249 = .ok (.if_icmp .ne 14, 3) := by decide +kernel
theorem d_Mo_real_252 : decode c_Mo_real 252 = .ok (.aload_n 0, 1) := by decide +kernel
theorem d_Mo_real_253 : decode c_Mo_real 253 = .ok (.iload 9, 2) := by decide +kernel
theorem d_Mo_real_255 : decode c_Mo_real 255 = .ok (.iload 4, 2) := by decide +kernel
theorem d_Mo_real_257 : decode c_Mo_real 257 = .ok (.invokevirtual 206, 3) := by decide +kernel
theorem d_Mo_real_260 : decode c_Mo_real 260 = .ok (.goto 11, 3) := by decide +kernel
theorem d_Mo_real_263 : decode c_Mo_real 263 = .ok (.aload_n 0, 1) := by decide +kernel
theorem d_Mo_real_264 : decode c_Mo_real 264 = .ok (.iload 9, 2) := by decide +kernel
theorem d_Mo_real_266 : decode c_Mo_real 266 = .ok (.iload 4, 2) := by decide +kernel
theorem d_Mo_real_268 : decode c_Mo_real 268 = .ok (.invokevirtual 234, 3) := by decide +kernel
theorem d_Mo_real_271 : decode c_Mo_real 271 = .ok (.return_, 1) := by decide +kernel
theorem d_Mo_wrong_0 : decode c_Mo_wrong 0 = .ok (.aload_n 0, 1) := by decide +kernel
theorem d_Mo_wrong_1 : decode c_Mo_wrong 1 = .ok (.iconst 0, 1) := by decide +kernel
theorem d_Mo_wrong_2 : decode c_Mo_wrong 2 = .ok (.putfield 39, 3) := by decide +kernel
theorem d_Mo_wrong_5 : decode c_Mo_wrong 5 = .ok (.aload_n 0, 1) := by decide +kernel
theorem d_Mo_wrong_6 : decode c_Mo_wrong 6 = .ok (.getfield 7, 3) := by decide +kernel
theorem d_Mo_wrong_9 : decode c_Mo_wrong 9 = .ok (.ireturn, 1) := by decide +kernel
theorem d_Mo_letters_0 : decode c_Mo_letters 0 = .ok (.aload_n 0, 1) := by decide +kernel
theorem d_Mo_letters_1 : decode c_Mo_letters 1 = .ok (.iconst 0, 1) := by decide +kernel
theorem d_Mo_letters_2 : decode c_Mo_letters 2 = .ok (.putfield 39, 3) := by decide +kernel
theorem d_Mo_letters_5 : decode c_Mo_letters 5 = .ok (.aload_n 0, 1) := by decide +kernel
theorem d_Mo_letters_6 : decode c_Mo_letters 6 = .ok (.iload_n 1, 1) := by decide +kernel
theorem d_Mo_letters_7 : decode c_Mo_letters 7 = .ok (.ifCond .lt 17, 3) := by decide +kernel
theorem d_Mo_letters_10 : decode c_Mo_letters 10 = .ok (.iload_n 1, 1) := by decide +kernel
theorem d_Mo_letters_11 : decode c_Mo_letters 11 = .ok (.aload_n 0, 1) := by decide +kernel
theorem d_Mo_letters_12 : decode c_Mo_letters 12 = .ok (.getfield 119, 3) := by decide +kernel
theorem d_Mo_letters_15 : decode c_Mo_letters 15 = .ok (.bipush 7, 2) := by decide +kernel
theorem d_Mo_letters_17 : decode c_Mo_letters 17 = .ok (.iadd, 1) := by decide +kernel
theorem d_Mo_letters_18 : decode c_Mo_letters 18 = .ok (.bipush 8, 2) := by decide +kernel
theorem d_Mo_letters_20 : decode c_Mo_letters 20 = .ok (.idiv, 1) := by decide +kernel
theorem d_Mo_letters_21 : decode c_Mo_letters 21 = .ok (.if_icmp .lt 7, 3) := by decide +kernel
theorem d_Mo_letters_24 : decode c_Mo_letters 24 = .ok (.iconst 1, 1) := by decide +kernel
theorem d_Mo_letters_25 : decode c_Mo_letters 25 = .ok (.goto 4, 3) := by decide +kernel
theorem d_Mo_letters_28 : decode c_Mo_letters 28 = .ok (.iconst 0, 1) := by decide +kernel
theorem d_Mo_letters_29 : decode c_Mo_letters 29 = .ok (.iconst 1, 1) := by decide +kernel
theorem d_Mo_letters_30 : decode c_Mo_letters 30 = .ok (.invokevirtual 47, 3) := by decide +kernel
theorem d_Mo_letters_33 : decode c_Mo_letters 33 = .ok (.ifCond .eq 5, 3) := by decide +kernel
theorem d_Mo_letters_36 : decode c_Mo_letters 36 = .ok (.lconst 0, 1) := by decide +kernel
theorem d_Mo_letters_37 : decode c_Mo_letters 37 = .ok (.lreturn, 1) := by decide +kernel
theorem d_Mo_letters_38 : decode c_Mo_letters 38 = .ok (.lconst 0, 1) := by decide +kernel
theorem d_Mo_letters_39 : decode c_Mo_letters 39 = .ok (.lstore_n 2, 1) := by decide +kernel
theorem d_Mo_letters_40 : decode c_Mo_letters 40 = .ok (.iconst 0, 1) := by decide +kernel
theorem d_Mo_letters_41 : decode c_Mo_letters 41 = .ok (.istore 4, 2) := by decide +kernel
theorem d_Mo_letters_43 : decode c_Mo_letters 43 = .ok (.iload 4, 2) := by decide +kernel
theorem d_Mo_letters_45 : decode c_Mo_letters 45 = .ok (.bipush 8, 2) := by decide +kernel
theorem d_Mo_letters_47 : decode c_Mo_letters 47 = .ok (.if_icmp .ge 46, 3) := by decide +kernel
theorem d_Mo_letters_50 : decode c_Mo_letters 50 = .ok (.lload_n 2, 1) := by decide +kernel
theorem d_Mo_letters_51 : decode c_Mo_letters 51 = .ok (.bipush 8, 2) := by decide +kernel
theorem d_Mo_letters_53 : decode c_Mo_letters 53 = .ok (.lshl, 1) := by decide +kernel
theorem d_Mo_letters_54 : decode c_Mo_letters 54 = .ok (.bipush 8, 2) := by decide +kernel
theorem d_Mo_letters_56 : decode c_Mo_letters 56 = .ok (.iload_n 1, 1) := by decide +kernel
theorem d_Mo_letters_57 : decode c_Mo_letters 57 = .ok (.imul, 1) := by decide +kernel
theorem d_Mo_letters_58 : decode c_Mo_letters 58 = .ok (.iload 4, 2) := by decide +kernel
theorem d_Mo_letters_60 : decode c_Mo_letters 60 = .ok (.iadd, 1) := by decide +kernel
theorem d_Mo_letters_61 : decode c_Mo_letters 61 = .ok (.aload_n 0, 1) := by decide +kernel
theorem d_Mo_letters_62 : decode c_Mo_letters 62 = .ok (.getfield 119, 3) := by decide +kernel
theorem d_Mo_letters_65 : decode c_Mo_letters 65 = .ok (.if_icmp .ge 18, 3) := by decide +kernel
theorem d_Mo_letters_68 : decode c_Mo_letters 68 = .ok (.aload_n 0, 1) := by decide +kernel
theorem d_Mo_letters_69 : decode c_Mo_letters 69 = .ok (.getfield 17, 3) := by decide +kernel
theorem d_Mo_letters_72 : decode c_Mo_letters 72 = .ok (.bipush 8, 2) := by decide +kernel
theorem d_Mo_letters_74 : decode c_Mo_letters 74 = .ok (.iload_n 1, 1) := by decide +kernel
theorem d_Mo_letters_75 : decode c_Mo_letters 75 = .ok (.imul, 1) := by decide +kernel
theorem d_Mo_letters_76 : decode c_Mo_letters 76 = .ok (.iload 4, 2) := by decide +kernel
theorem d_Mo_letters_78 : decode c_Mo_letters 78 = .ok (.iadd, 1) := by decide +kernel
theorem d_Mo_letters_79 : decode c_Mo_letters 79 = .ok (.iaload, 1) := by decide +kernel
theorem d_Mo_letters_80 : decode c_Mo_letters 80 = .ok (.goto 4, 3) := by decide +kernel
theorem d_Mo_letters_83 : decode c_Mo_letters 83 = .ok (.iconst 0, 1) := by decide +kernel
theorem d_Mo_letters_84 : decode c_Mo_letters 84 = .ok (.i2l, 1) := by decide +kernel
theorem d_Mo_letters_85 : decode c_Mo_letters 85 = .ok (.lor, 1) := by decide +kernel
theorem d_Mo_letters_86 : decode c_Mo_letters 86 = .ok (.lstore_n 2, 1) := by decide +kernel
theorem d_Mo_letters_87 : decode c_Mo_letters 87 = .ok (.iinc 4 1, 3) := by decide +kernel
theorem d_Mo_letters_90 : decode c_Mo_letters 90 = .ok (.goto (-47), 3) := by decide +kernel
theorem d_Mo_letters_93 : decode c_Mo_letters 93 = .ok (.lload_n 2, 1) := by decide +kernel
theorem d_Mo_letters_94 : decode c_Mo_letters 94 = .ok (.lreturn, 1) := by decide +kernel
theorem d_Mo_count_0 : decode c_Mo_count 0 = .ok (.aload_n 0, 1) := by decide +kernel
theorem d_Mo_count_1 : decode c_Mo_count 1 = .ok (.iconst 0, 1) := by decide +kernel
theorem d_Mo_count_2 : decode c_Mo_count 2 = .ok (.putfield 39, 3) := by decide +kernel
theorem d_Mo_count_5 : decode c_Mo_count 5 = .ok (.aload_n 0, 1) := by decide +kernel
theorem d_Mo_count_6 : decode c_Mo_count 6 = .ok (.iload_n 1, 1) := by decide +kernel
theorem d_Mo_count_7 : decode c_Mo_count 7 = .ok (.iconst 0, 1) := by decide +kernel
theorem d_Mo_count_8 : decode c_Mo_count 8 = .ok (.iconst 4, 1) := by decide +kernel
theorem d_Mo_count_9 : decode c_Mo_count 9 = .ok (.invokestatic 61, 3) := by decide +kernel
theorem d_Mo_count_12 : decode c_Mo_count 12 = .ok (.ifCond .ne 7, 3) := by decide +kernel
theorem d_Mo_count_15 : decode c_Mo_count 15 = .ok (.iconst 1, 1) := by decide +kernel
theorem d_Mo_count_16 : decode c_Mo_count 16 = .ok (.goto 4, 3) := by decide +kernel
theorem d_Mo_count_19 : decode c_Mo_count 19 = .ok (.iconst 0, 1) := by decide +kernel
theorem d_Mo_count_20 : decode c_Mo_count 20 = .ok (.iconst 1, 1) := by decide +kernel
theorem d_Mo_count_21 : decode c_Mo_count 21 = .ok (.invokevirtual 47, 3) := by decide +kernel
theorem d_Mo_count_24 : decode c_Mo_count 24 = .ok (.ifCond .eq 5, 3) := by decide +kernel
theorem d_Mo_count_27 : decode c_Mo_count 27 = .ok (.iconst 0, 1) := by decide +kernel
theorem d_Mo_count_28 : decode c_Mo_count 28 = .ok (.ireturn, 1) := by decide +kernel
theorem d_Mo_count_29 : decode c_Mo_count 29 = .ok (.iload_n 1, 1) := by decide +kernel
theorem d_Mo_count_30 : decode c_Mo_count 30 = .ok (.ifCond .ne 10, 3) := by decide +kernel
theorem d_Mo_count_33 : decode c_Mo_count 33 = .ok (.aload_n 0, 1) := by decide +kernel
theorem d_Mo_count_34 : decode c_Mo_count 34 = .ok (.getfield 44, 3) := by decide +kernel
theorem d_Mo_count_37 : decode c_Mo_count 37 = .ok (.goto 43, 3) := by decide +kernel
theorem d_Mo_count_40 : decode c_Mo_count 40 = .ok (.iload_n 1, 1) := by decide +kernel
theorem d_Mo_count_41 : decode c_Mo_count 41 = .ok (.iconst 1, 1) := by decide +kernel
theorem d_Mo_count_42 : decode c_Mo_count 42 = .ok (.if_icmp .ne 10, 3) := by decide +kernel
theorem d_Mo_count_45 : decode c_Mo_count 45 = .ok (.aload_n 0, 1) := by decide +kernel
theorem d_Mo_count_46 : decode c_Mo_count 46 = .ok (.getfield 51, 3) := by decide +kernel
theorem d_Mo_count_49 : decode c_Mo_count 49 = .ok (.goto 31, 3) := by decide +kernel
theorem d_Mo_count_52 : decode c_Mo_count 52 = .ok (.iload_n 1, 1) := by decide +kernel
theorem d_Mo_count_53 : decode c_Mo_count 53 = .ok (.iconst 2, 1) := by decide +kernel
theorem d_Mo_count_54 : decode c_Mo_count 54 = .ok (.if_icmp .ne 10, 3) := by decide +kernel
theorem d_Mo_count_57 : decode c_Mo_count 57 = .ok (.aload_n 0, 1) := by decide +kernel
theorem d_Mo_count_58 : decode c_Mo_count 58 = .ok (.getfield 112, 3) := by decide +kernel
theorem d_Mo_count_61 : decode c_Mo_count 61 = .ok (.goto 19, 3) := by decide +kernel
theorem d_Mo_count_64 : decode c_Mo_count 64 = .ok (.iload_n 1, 1) := by decide +kernel
theorem d_Mo_count_65 : decode c_Mo_count 65 = .ok (.iconst 3, 1) := by decide +kernel
theorem d_Mo_count_66 : decode c_Mo_count 66 = .ok (.if_icmp .ne 10, 3) := by decide +kernel
theorem d_Mo_count_69 : decode c_Mo_count 69 = .ok (.aload_n 0, 1) := by decide +kernel
theorem d_Mo_count_70 : decode c_Mo_count 70 = .ok (.getfield 122, 3) := by decide +kernel
theorem d_Mo_count_73 : decode c_Mo_count 73 = .ok (.goto 7, 3) := by decide +kernel
theorem d_Mo_count_76 : decode c_Mo_count 76 = .ok (.aload_n 0, 1) := by decide +kernel
theorem d_Mo_count_77 : decode c_Mo_count 77 = .ok (.getfield 119, 3) := by decide +kernel
theorem d_Mo_count_80 : decode c_Mo_count 80 = .ok (.ireturn, 1) := by decide +kernel
end
section
/-! decode rows: La -/
theorem d_La_text_0 : decode c_La_text 0 = .ok (.aload_n 3, 1) := by decide +kernel
theorem d_La_text_1 : decode c_La_text 1 = .ok (.iconst 0, 1) := by decide +kernel
theorem d_La_text_2 : decode c_La_text 2 = .ok (.aload_n 0, 1) := by decide +kernel
theorem d_La_text_3 : decode c_La_text 3 = .ok (.lload_n 1, 1) := by decide +kernel
theorem d_La_text_4 : decode c_La_text 4 = .ok (.invokevirtual 7, 3) := by decide +kernel
theorem d_La_text_7 : decode c_La_text 7 = .ok (.i2l, 1) := by decide +kernel
theorem d_La_text_8 : decode c_La_text 8 = .ok (.lastore, 1) := by decide +kernel
theorem d_La_text_9 : decode c_La_text 9 = .ok (.goto 7, 3) := by decide +kernel
theorem d_La_text_12 : decode c_La_text 12 = .ok (.astore 4, 2) := by decide +kernel
theorem d_La_text_14 : decode c_La_text 14 = .ok (.iconst 1, 1) := by decide +kernel
theorem d_La_text_15 : decode c_La_text 15 = .ok (.ireturn, 1) := by decide +kernel
theorem d_La_text_16 : decode c_La_text 16 = .ok (.iconst 0, 1) := by decide +kernel
theorem d_La_text_17 : decode c_La_text 17 = .ok (.ireturn, 1) := by decide +kernel
theorem d_La_argument_0 : decode c_La_argument 0 = .ok (.aload_n 3, 1) := by decide +kernel
theorem d_La_argument_1 : decode c_La_argument 1 = .ok (.iconst 0, 1) := by decide +kernel
theorem d_La_argument_2 : decode c_La_argument 2 = .ok (.aload_n 0, 1) := by decide +kernel
theorem d_La_argument_3 : decode c_La_argument 3 = .ok (.lload_n 1, 1) := by decide +kernel
theorem d_La_argument_4 : decode c_La_argument 4 = .ok (.invokevirtual 15, 3) := by decide +kernel
theorem d_La_argument_7 : decode c_La_argument 7 = .ok (.i2l, 1) := by decide +kernel
theorem d_La_argument_8 : decode c_La_argument 8 = .ok (.lastore, 1) := by decide +kernel
theorem d_La_argument_9 : decode c_La_argument 9 = .ok (.goto 7, 3) := by decide +kernel
theorem d_La_argument_12 : decode c_La_argument 12 = .ok (.astore 4, 2) := by decide +kernel
theorem d_La_argument_14 : decode c_La_argument 14 = .ok (.iconst 1, 1) := by decide +kernel
theorem d_La_argument_15 : decode c_La_argument 15 = .ok (.ireturn, 1) := by decide +kernel
theorem d_La_argument_16 : decode c_La_argument 16 = .ok (.iconst 0, 1) := by decide +kernel
theorem d_La_argument_17 : decode c_La_argument 17 = .ok (.ireturn, 1) := by decide +kernel
theorem d_La_run_0 : decode c_La_run 0 = .ok (.aload_n 1, 1) := by decide +kernel
theorem d_La_run_1 : decode c_La_run 1 = .ok (.iconst 0, 1) := by decide +kernel
theorem d_La_run_2 : decode c_La_run 2 = .ok (.aload_n 0, 1) := by decide +kernel
theorem d_La_run_3 : decode c_La_run 3 = .ok (.invokevirtual 18, 3) := by decide +kernel
theorem d_La_run_6 : decode c_La_run 6 = .ok (.i2l, 1) := by decide +kernel
theorem d_La_run_7 : decode c_La_run 7 = .ok (.lastore, 1) := by decide +kernel
theorem d_La_run_8 : decode c_La_run 8 = .ok (.goto 9, 3) := by decide +kernel
theorem d_La_run_11 : decode c_La_run 11 = .ok (.astore_n 2, 1) := by decide +kernel
theorem d_La_run_12 : decode c_La_run 12 = .ok (.iconst 1, 1) := by decide +kernel
theorem d_La_run_13 : decode c_La_run 13 = .ok (.ireturn, 1) := by decide +kernel
theorem d_La_run_14 : decode c_La_run 14 = .ok (.astore_n 2, 1) := by decide +kernel
theorem d_La_run_15 : decode c_La_run 15 = .ok (.iconst 2, 1) := by decide +kernel
theorem d_La_run_16 : decode c_La_run 16 = .ok (.ireturn, 1) := by decide +kernel
theorem d_La_run_17 : decode c_La_run 17 = .ok (.iconst 0, 1) := by decide +kernel
theorem d_La_run_18 : decode c_La_run 18 = .ok (.ireturn, 1) := by decide +kernel
theorem d_La_letters_0 : decode c_La_letters 0 = .ok (.aload_n 2, 1) := by decide +kernel
theorem d_La_letters_1 : decode c_La_letters 1 = .ok (.iconst 0, 1) := by decide +kernel
theorem d_La_letters_2 : decode c_La_letters 2 = .ok (.aload_n 0, 1) := by decide +kernel
theorem d_La_letters_3 : decode c_La_letters 3 = .ok (.iload_n 1, 1) := by decide +kernel
theorem d_La_letters_4 : decode c_La_letters 4 = .ok (.invokevirtual 26, 3) := by decide +kernel
theorem d_La_letters_7 : decode c_La_letters 7 = .ok (.lastore, 1) := by decide +kernel
theorem d_La_letters_8 : decode c_La_letters 8 = .ok (.goto 6, 3) := by decide +kernel
theorem d_La_letters_11 : decode c_La_letters 11 = .ok (.astore_n 3, 1) := by decide +kernel
theorem d_La_letters_12 : decode c_La_letters 12 = .ok (.iconst 1, 1) := by decide +kernel
theorem d_La_letters_13 : decode c_La_letters 13 = .ok (.ireturn, 1) := by decide +kernel
theorem d_La_letters_14 : decode c_La_letters 14 = .ok (.iconst 0, 1) := by decide +kernel
theorem d_La_letters_15 : decode c_La_letters 15 = .ok (.ireturn, 1) := by decide +kernel
theorem d_La_count_0 : decode c_La_count 0 = .ok (.aload_n 2, 1) := by decide +kernel
theorem d_La_count_1 : decode c_La_count 1 = .ok (.iconst 0, 1) := by decide +kernel
theorem d_La_count_2 : decode c_La_count 2 = .ok (.aload_n 0, 1) := by decide +kernel
theorem d_La_count_3 : decode c_La_count 3 = .ok (.iload_n 1, 1) := by decide +kernel
theorem d_La_count_4 : decode c_La_count 4 = .ok (.invokevirtual 30, 3) := by decide +kernel
theorem d_La_count_7 : decode c_La_count 7 = .ok (.i2l, 1) := by decide +kernel
theorem d_La_count_8 : decode c_La_count 8 = .ok (.lastore, 1) := by decide +kernel
theorem d_La_count_9 : decode c_La_count 9 = .ok (.goto 6, 3) := by decide +kernel
theorem d_La_count_12 : decode c_La_count 12 = .ok (.astore_n 3, 1) := by decide +kernel
theorem d_La_count_13 : decode c_La_count 13 = .ok (.iconst 1, 1) := by decide +kernel
theorem d_La_count_14 : decode c_La_count 14 = .ok (.ireturn, 1) := by decide +kernel
theorem d_La_count_15 : decode c_La_count 15 = .ok (.iconst 0, 1) := by decide +kernel
theorem d_La_count_16 : decode c_La_count 16 = .ok (.ireturn, 1) := by decide +kernel
theorem d_La_law_0 : decode code 0 = .ok (.new 8, 3) := by decide +kernel
theorem d_La_law_3 : decode code 3 = .ok (.dup, 1) := by decide +kernel
theorem d_La_law_4 : decode code 4 = .ok (.invokespecial 34, 3) := by decide +kernel
theorem d_La_law_7 : decode code 7 = .ok (.astore_n 1, 1) := by decide +kernel
theorem d_La_law_8 : decode code 8 = .ok (.new 35, 3) := by decide +kernel
theorem d_La_law_11 : decode code 11 = .ok (.dup, 1) := by decide +kernel
theorem d_La_law_12 : decode code 12 = .ok (.invokespecial 37, 3) := by decide +kernel
theorem d_La_law_15 : decode code 15 = .ok (.astore_n 2, 1) := by decide +kernel
theorem d_La_law_16 : decode code 16 = .ok (.iconst 1, 1) := by decide +kernel
theorem d_La_law_17 : decode code 17 = .ok (.newarray .long, 2) := by decide +kernel
theorem d_La_law_19 : decode code 19 = .ok (.astore_n 3, 1) := by decide +kernel
theorem d_La_law_20 : decode code 20 = .ok (.iconst 0, 1) := by decide +kernel
theorem d_La_law_21 : decode code 21 = .ok (.istore 4, 2) := by decide +kernel
theorem d_La_law_23 : decode code 23 = .ok (.iload 4, 2) := by decide +kernel
theorem d_La_law_25 : decode code 25 = .ok (.aload_n 0, 1) := by decide +kernel
theorem d_La_law_26 : decode code 26 = .ok (.arraylength, 1) := by decide +kernel
theorem d_La_law_27 : decode code 27 = .ok (.iconst 3, 1) := by decide +kernel
theorem d_La_law_28 : decode code 28 = .ok (.isub, 1) := by decide +kernel
theorem d_La_law_29 : decode code 29 = .ok (.if_icmp .gt 412, 3) := by decide +kernel
theorem d_La_law_32 : decode code 32 = .ok (.aload_n 0, 1) := by decide +kernel
theorem d_La_law_33 : decode code 33 = .ok (.iload 4, 2) := by decide +kernel
theorem d_La_law_35 : decode code 35 = .ok (.iaload, 1) := by decide +kernel
theorem d_La_law_36 : decode code 36 = .ok (.bipush 7, 2) := by decide +kernel
theorem d_La_law_38 : decode code 38 = .ok (.iand, 1) := by decide +kernel
theorem d_La_law_39 : decode code 39 = .ok (.tableswitch 396 0 6 #[41, 129, 217, 228, 272, 285, 340], 41) := by decide +kernel
theorem d_La_law_80 : decode code 80 = .ok (.aload_n 1, 1) := by decide +kernel
theorem d_La_law_81 : decode code 81 = .ok (.aload_n 0, 1) := by decide +kernel
theorem d_La_law_82 : decode code 82 = .ok (.iload 4, 2) := by decide +kernel
theorem d_La_law_84 : decode code 84 = .ok (.iconst 1, 1) := by decide +kernel
theorem d_La_law_85 : decode code 85 = .ok (.iadd, 1) := by decide +kernel
theorem d_La_law_86 : decode code 86 = .ok (.iaload, 1) := by decide +kernel
theorem d_La_law_87 : decode code 87 = .ok (.i2l, 1) := by decide +kernel
theorem d_La_law_88 : decode code 88 = .ok (.bipush 32, 2) := by decide +kernel
theorem d_La_law_90 : decode code 90 = .ok (.lshl, 1) := by decide +kernel
theorem d_La_law_91 : decode code 91 = .ok (.aload_n 0, 1) := by decide +kernel
theorem d_La_law_92 : decode code 92 = .ok (.iload 4, 2) := by decide +kernel
theorem d_La_law_94 : decode code 94 = .ok (.iconst 2, 1) := by decide +kernel
theorem d_La_law_95 : decode code 95 = .ok (.iadd, 1) := by decide +kernel
theorem d_La_law_96 : decode code 96 = .ok (.iaload, 1) := by decide +kernel
theorem d_La_law_97 : decode code 97 = .ok (.i2l, 1) := by decide +kernel
theorem d_La_law_98 : decode code 98 = .ok (.ldc2_w 38, 3) := by decide +kernel
theorem d_La_law_101 : decode code 101 = .ok (.land, 1) := by decide +kernel
theorem d_La_law_102 : decode code 102 = .ok (.lor, 1) := by decide +kernel
theorem d_La_law_103 : decode code 103 = .ok (.aload_n 3, 1) := by decide +kernel
theorem d_La_law_104 : decode code 104 = .ok (.invokestatic 40, 3) := by decide +kernel
theorem d_La_law_107 : decode code 107 = .ok (.istore 5, 2) := by decide +kernel
theorem d_La_law_109 : decode code 109 = .ok (.aload_n 2, 1) := by decide +kernel
theorem d_La_law_110 : decode code 110 = .ok (.aload_n 0, 1) := by decide +kernel
theorem d_La_law_111 : decode code 111 = .ok (.iload 4, 2) := by decide +kernel
theorem d_La_law_113 : decode code 113 = .ok (.iconst 1, 1) := by decide +kernel
theorem d_La_law_114 : decode code 114 = .ok (.iadd, 1) := by decide +kernel
theorem d_La_law_115 : decode code 115 = .ok (.iaload, 1) := by decide +kernel
theorem d_La_law_116 : decode code 116 = .ok (.i2l, 1) := by decide +kernel
theorem d_La_law_117 : decode code 117 = .ok (.bipush 32, 2) := by decide +kernel
theorem d_La_law_119 : decode code 119 = .ok (.lshl, 1) := by decide +kernel
theorem d_La_law_120 : decode code 120 = .ok (.aload_n 0, 1) := by decide +kernel
theorem d_La_law_121 : decode code 121 = .ok (.iload 4, 2) := by decide +kernel
theorem d_La_law_123 : decode code 123 = .ok (.iconst 2, 1) := by decide +kernel
theorem d_La_law_124 : decode code 124 = .ok (.iadd, 1) := by decide +kernel
theorem d_La_law_125 : decode code 125 = .ok (.iaload, 1) := by decide +kernel
theorem d_La_law_126 : decode code 126 = .ok (.i2l, 1) := by decide +kernel
theorem d_La_law_127 : decode code 127 = .ok (.ldc2_w 38, 3) := by decide +kernel
theorem d_La_law_130 : decode code 130 = .ok (.land, 1) := by decide +kernel
theorem d_La_law_131 : decode code 131 = .ok (.lor, 1) := by decide +kernel
theorem d_La_law_132 : decode code 132 = .ok (.invokevirtual 45, 3) := by decide +kernel
theorem d_La_law_135 : decode code 135 = .ok (.istore 6, 2) := by decide +kernel
theorem d_La_law_137 : decode code 137 = .ok (.aload_n 2, 1) := by decide +kernel
theorem d_La_law_138 : decode code 138 = .ok (.invokevirtual 46, 3) := by decide +kernel
theorem d_La_law_141 : decode code 141 = .ok (.iload 5, 2) := by decide +kernel
theorem d_La_law_143 : decode code 143 = .ok (.if_icmp .eq 5, 3) := by decide +kernel
theorem d_La_law_146 : decode code 146 = .ok (.iconst 0, 1) := by decide +kernel
theorem d_La_law_147 : decode code 147 = .ok (.ireturn, 1) := by decide +kernel
theorem d_La_law_148 : decode code 148 = .ok (.iload 5, 2) := by decide +kernel
theorem d_La_law_150 : decode code 150 = .ok (.ifCond .ne 15, 3) := by decide +kernel
theorem d_La_law_153 : decode code 153 = .ok (.aload_n 3, 1) := by decide +kernel
theorem d_La_law_154 : decode code 154 = .ok (.iconst 0, 1) := by decide +kernel
theorem d_La_law_155 : decode code 155 = .ok (.laload, 1) := by decide +kernel
theorem d_La_law_156 : decode code 156 = .ok (.iload 6, 2) := by decide +kernel
theorem d_La_law_158 : decode code 158 = .ok (.i2l, 1) := by decide +kernel
theorem d_La_law_159 : decode code 159 = .ok (.lcmp, 1) := by decide +kernel
theorem d_La_law_160 : decode code 160 = .ok (.ifCond .eq 5, 3) := by decide +kernel
theorem d_La_law_163 : decode code 163 = .ok (.iconst 0, 1) := by decide +kernel
theorem d_La_law_164 : decode code 164 = .ok (.ireturn, 1) := by decide +kernel
theorem d_La_law_165 : decode code 165 = .ok (.goto 270, 3) := by decide +kernel
theorem d_La_law_168 : decode code 168 = .ok (.aload_n 1, 1) := by decide +kernel
theorem d_La_law_169 : decode code 169 = .ok (.aload_n 0, 1) := by decide +kernel
theorem d_La_law_170 : decode code 170 = .ok (.iload 4, 2) := by decide +kernel
theorem d_La_law_172 : decode code 172 = .ok (.iconst 1, 1) := by decide +kernel
theorem d_La_law_173 : decode code 173 = .ok (.iadd, 1) := by decide +kernel
theorem d_La_law_174 : decode code 174 = .ok (.iaload, 1) := by decide +kernel
theorem d_La_law_175 : decode code 175 = .ok (.i2l, 1) := by decide +kernel
theorem d_La_law_176 : decode code 176 = .ok (.bipush 32, 2) := by decide +kernel
theorem d_La_law_178 : decode code 178 = .ok (.lshl, 1) := by decide +kernel
theorem d_La_law_179 : decode code 179 = .ok (.aload_n 0, 1) := by decide +kernel
theorem d_La_law_180 : decode code 180 = .ok (.iload 4, 2) := by decide +kernel
theorem d_La_law_182 : decode code 182 = .ok (.iconst 2, 1) := by decide +kernel
theorem d_La_law_183 : decode code 183 = .ok (.iadd, 1) := by decide +kernel
theorem d_La_law_184 : decode code 184 = .ok (.iaload, 1) := by decide +kernel
theorem d_La_law_185 : decode code 185 = .ok (.i2l, 1) := by decide +kernel
theorem d_La_law_186 : decode code 186 = .ok (.ldc2_w 38, 3) := by decide +kernel
theorem d_La_law_189 : decode code 189 = .ok (.land, 1) := by decide +kernel
theorem d_La_law_190 : decode code 190 = .ok (.lor, 1) := by decide +kernel
theorem d_La_law_191 : decode code 191 = .ok (.aload_n 3, 1) := by decide +kernel
theorem d_La_law_192 : decode code 192 = .ok (.invokestatic 49, 3) := by decide +kernel
theorem d_La_law_195 : decode code 195 = .ok (.istore 5, 2) := by decide +kernel
theorem d_La_law_197 : decode code 197 = .ok (.aload_n 2, 1) := by decide +kernel
theorem d_La_law_198 : decode code 198 = .ok (.aload_n 0, 1) := by decide +kernel
theorem d_La_law_199 : decode code 199 = .ok (.iload 4, 2) := by decide +kernel
theorem d_La_law_201 : decode code 201 = .ok (.iconst 1, 1) := by decide +kernel
theorem d_La_law_202 : decode code 202 = .ok (.iadd, 1) := by decide +kernel
theorem d_La_law_203 : decode code 203 = .ok (.iaload, 1) := by decide +kernel
theorem d_La_law_204 : decode code 204 = .ok (.i2l, 1) := by decide +kernel
theorem d_La_law_205 : decode code 205 = .ok (.bipush 32, 2) := by decide +kernel
theorem d_La_law_207 : decode code 207 = .ok (.lshl, 1) := by decide +kernel
theorem d_La_law_208 : decode code 208 = .ok (.aload_n 0, 1) := by decide +kernel
theorem d_La_law_209 : decode code 209 = .ok (.iload 4, 2) := by decide +kernel
theorem d_La_law_211 : decode code 211 = .ok (.iconst 2, 1) := by decide +kernel
theorem d_La_law_212 : decode code 212 = .ok (.iadd, 1) := by decide +kernel
theorem d_La_law_213 : decode code 213 = .ok (.iaload, 1) := by decide +kernel
theorem d_La_law_214 : decode code 214 = .ok (.i2l, 1) := by decide +kernel
theorem d_La_law_215 : decode code 215 = .ok (.ldc2_w 38, 3) := by decide +kernel
theorem d_La_law_218 : decode code 218 = .ok (.land, 1) := by decide +kernel
theorem d_La_law_219 : decode code 219 = .ok (.lor, 1) := by decide +kernel
theorem d_La_law_220 : decode code 220 = .ok (.invokevirtual 51, 3) := by decide +kernel
theorem d_La_law_223 : decode code 223 = .ok (.istore 6, 2) := by decide +kernel
theorem d_La_law_225 : decode code 225 = .ok (.aload_n 2, 1) := by decide +kernel
theorem d_La_law_226 : decode code 226 = .ok (.invokevirtual 46, 3) := by decide +kernel
theorem d_La_law_229 : decode code 229 = .ok (.iload 5, 2) := by decide +kernel
theorem d_La_law_231 : decode code 231 = .ok (.if_icmp .eq 5, 3) := by decide +kernel
theorem d_La_law_234 : decode code 234 = .ok (.iconst 0, 1) := by decide +kernel
theorem d_La_law_235 : decode code 235 = .ok (.ireturn, 1) := by decide +kernel
theorem d_La_law_236 : decode code 236 = .ok (.iload 5, 2) := by decide +kernel
theorem d_La_law_238 : decode code 238 = .ok (.ifCond .ne 15, 3) := by decide +kernel
theorem d_La_law_241 : decode code 241 = .ok (.aload_n 3, 1) := by decide +kernel
theorem d_La_law_242 : decode code 242 = .ok (.iconst 0, 1) := by decide +kernel
theorem d_La_law_243 : decode code 243 = .ok (.laload, 1) := by decide +kernel
theorem d_La_law_244 : decode code 244 = .ok (.iload 6, 2) := by decide +kernel
theorem d_La_law_246 : decode code 246 = .ok (.i2l, 1) := by decide +kernel
theorem d_La_law_247 : decode code 247 = .ok (.lcmp, 1) := by decide +kernel
theorem d_La_law_248 : decode code 248 = .ok (.ifCond .eq 5, 3) := by decide +kernel
theorem d_La_law_251 : decode code 251 = .ok (.iconst 0, 1) := by decide +kernel
theorem d_La_law_252 : decode code 252 = .ok (.ireturn, 1) := by decide +kernel
theorem d_La_law_253 : decode code 253 = .ok (.goto 182, 3) := by decide +kernel
theorem d_La_law_256 : decode code 256 = .ok (.aload_n 1, 1) := by decide +kernel
theorem d_La_law_257 : decode code 257 = .ok (.invokevirtual 52, 3) := by decide +kernel
theorem d_La_law_260 : decode code 260 = .ok (.aload_n 2, 1) := by decide +kernel
theorem d_La_law_261 : decode code 261 = .ok (.invokevirtual 55, 3) := by decide +kernel
theorem d_La_law_264 : decode code 264 = .ok (.goto 171, 3) := by decide +kernel
theorem d_La_law_267 : decode code 267 = .ok (.aload_n 1, 1) := by decide +kernel
theorem d_La_law_268 : decode code 268 = .ok (.aload_n 3, 1) := by decide +kernel
theorem d_La_law_269 : decode code 269 = .ok (.invokestatic 56, 3) := by decide +kernel
theorem d_La_law_272 : decode code 272 = .ok (.istore 5, 2) := by decide +kernel
theorem d_La_law_274 : decode code 274 = .ok (.aload_n 2, 1) := by decide +kernel
theorem d_La_law_275 : decode code 275 = .ok (.invokevirtual 59, 3) := by decide +kernel
theorem d_La_law_278 : decode code 278 = .ok (.istore 6, 2) := by decide +kernel
theorem d_La_law_280 : decode code 280 = .ok (.aload_n 2, 1) := by decide +kernel
theorem d_La_law_281 : decode code 281 = .ok (.invokevirtual 46, 3) := by decide +kernel
theorem d_La_law_284 : decode code 284 = .ok (.iload 5, 2) := by decide +kernel
theorem d_La_law_286 : decode code 286 = .ok (.if_icmp .eq 5, 3) := by decide +kernel
theorem d_La_law_289 : decode code 289 = .ok (.iconst 0, 1) := by decide +kernel
theorem d_La_law_290 : decode code 290 = .ok (.ireturn, 1) := by decide +kernel
theorem d_La_law_291 : decode code 291 = .ok (.iload 5, 2) := by decide +kernel
theorem d_La_law_293 : decode code 293 = .ok (.ifCond .ne 15, 3) := by decide +kernel
theorem d_La_law_296 : decode code 296 = .ok (.aload_n 3, 1) := by decide +kernel
theorem d_La_law_297 : decode code 297 = .ok (.iconst 0, 1) := by decide +kernel
theorem d_La_law_298 : decode code 298 = .ok (.laload, 1) := by decide +kernel
theorem d_La_law_299 : decode code 299 = .ok (.iload 6, 2) := by decide +kernel
theorem d_La_law_301 : decode code 301 = .ok (.i2l, 1) := by decide +kernel
theorem d_La_law_302 : decode code 302 = .ok (.lcmp, 1) := by decide +kernel
theorem d_La_law_303 : decode code 303 = .ok (.ifCond .eq 5, 3) := by decide +kernel
theorem d_La_law_306 : decode code 306 = .ok (.iconst 0, 1) := by decide +kernel
theorem d_La_law_307 : decode code 307 = .ok (.ireturn, 1) := by decide +kernel
theorem d_La_law_308 : decode code 308 = .ok (.goto 127, 3) := by decide +kernel
theorem d_La_law_311 : decode code 311 = .ok (.aload_n 1, 1) := by decide +kernel
theorem d_La_law_312 : decode code 312 = .ok (.invokevirtual 60, 3) := by decide +kernel
theorem d_La_law_315 : decode code 315 = .ok (.aload_n 2, 1) := by decide +kernel
theorem d_La_law_316 : decode code 316 = .ok (.invokevirtual 63, 3) := by decide +kernel
theorem d_La_law_319 : decode code 319 = .ok (.if_icmp .eq 116, 3) := by decide +kernel
theorem d_La_law_322 : decode code 322 = .ok (.iconst 0, 1) := by decide +kernel
theorem d_La_law_323 : decode code 323 = .ok (.ireturn, 1) := by decide +kernel
theorem d_La_law_324 : decode code 324 = .ok (.aload_n 1, 1) := by decide +kernel
theorem d_La_law_325 : decode code 325 = .ok (.aload_n 0, 1) := by decide +kernel
theorem d_La_law_326 : decode code 326 = .ok (.iload 4, 2) := by decide +kernel
theorem d_La_law_328 : decode code 328 = .ok (.iconst 1, 1) := by decide +kernel
theorem d_La_law_329 : decode code 329 = .ok (.iadd, 1) := by decide +kernel
theorem d_La_law_330 : decode code 330 = .ok (.iaload, 1) := by decide +kernel
theorem d_La_law_331 : decode code 331 = .ok (.aload_n 3, 1) := by decide +kernel
theorem d_La_law_332 : decode code 332 = .ok (.invokestatic 64, 3) := by decide +kernel
theorem d_La_law_335 : decode code 335 = .ok (.istore 5, 2) := by decide +kernel
theorem d_La_law_337 : decode code 337 = .ok (.aload_n 2, 1) := by decide +kernel
theorem d_La_law_338 : decode code 338 = .ok (.aload_n 0, 1) := by decide +kernel
theorem d_La_law_339 : decode code 339 = .ok (.iload 4, 2) := by decide +kernel
theorem d_La_law_341 : decode code 341 = .ok (.iconst 1, 1) := by decide +kernel
theorem d_La_law_342 : decode code 342 = .ok (.iadd, 1) := by decide +kernel
theorem d_La_law_343 : decode code 343 = .ok (.iaload, 1) := by decide +kernel
theorem d_La_law_344 : decode code 344 = .ok (.invokevirtual 67, 3) := by decide +kernel
theorem d_La_law_347 : decode code 347 = .ok (.lstore 6, 2) := by decide +kernel
theorem d_La_law_349 : decode code 349 = .ok (.aload_n 2, 1) := by decide +kernel
theorem d_La_law_350 : decode code 350 = .ok (.invokevirtual 46, 3) := by decide +kernel
theorem d_La_law_353 : decode code 353 = .ok (.iload 5, 2) := by decide +kernel
theorem d_La_law_355 : decode code 355 = .ok (.if_icmp .eq 5, 3) := by decide +kernel
theorem d_La_law_358 : decode code 358 = .ok (.iconst 0, 1) := by decide +kernel
theorem d_La_law_359 : decode code 359 = .ok (.ireturn, 1) := by decide +kernel
theorem d_La_law_360 : decode code 360 = .ok (.iload 5, 2) := by decide +kernel
theorem d_La_law_362 : decode code 362 = .ok (.ifCond .ne 14, 3) := by decide +kernel
theorem d_La_law_365 : decode code 365 = .ok (.aload_n 3, 1) := by decide +kernel
theorem d_La_law_366 : decode code 366 = .ok (.iconst 0, 1) := by decide +kernel
theorem d_La_law_367 : decode code 367 = .ok (.laload, 1) := by decide +kernel
theorem d_La_law_368 : decode code 368 = .ok (.lload 6, 2) := by decide +kernel
theorem d_La_law_370 : decode code 370 = .ok (.lcmp, 1) := by decide +kernel
theorem d_La_law_371 : decode code 371 = .ok (.ifCond .eq 5, 3) := by decide +kernel
theorem d_La_law_374 : decode code 374 = .ok (.iconst 0, 1) := by decide +kernel
theorem d_La_law_375 : decode code 375 = .ok (.ireturn, 1) := by decide +kernel
theorem d_La_law_376 : decode code 376 = .ok (.goto 59, 3) := by decide +kernel
theorem d_La_law_379 : decode code 379 = .ok (.aload_n 1, 1) := by decide +kernel
theorem d_La_law_380 : decode code 380 = .ok (.aload_n 0, 1) := by decide +kernel
theorem d_La_law_381 : decode code 381 = .ok (.iload 4, 2) := by decide +kernel
theorem d_La_law_383 : decode code 383 = .ok (.iconst 1, 1) := by decide +kernel
theorem d_La_law_384 : decode code 384 = .ok (.iadd, 1) := by decide +kernel
theorem d_La_law_385 : decode code 385 = .ok (.iaload, 1) := by decide +kernel
theorem d_La_law_386 : decode code 386 = .ok (.aload_n 3, 1) := by decide +kernel
theorem d_La_law_387 : decode code 387 = .ok (.invokestatic 68, 3) := by decide +kernel
theorem d_La_law_390 : decode code 390 = .ok (.istore 5, 2) := by decide +kernel
theorem d_La_law_392 : decode code 392 = .ok (.aload_n 2, 1) := by decide +kernel
theorem d_La_law_393 : decode code 393 = .ok (.aload_n 0, 1) := by decide +kernel
theorem d_La_law_394 : decode code 394 = .ok (.iload 4, 2) := by decide +kernel
theorem d_La_law_396 : decode code 396 = .ok (.iconst 1, 1) := by decide +kernel
theorem d_La_law_397 : decode code 397 = .ok (.iadd, 1) := by decide +kernel
theorem d_La_law_398 : decode code 398 = .ok (.iaload, 1) := by decide +kernel
theorem d_La_law_399 : decode code 399 = .ok (.invokevirtual 70, 3) := by decide +kernel
theorem d_La_law_402 : decode code 402 = .ok (.istore 6, 2) := by decide +kernel
theorem d_La_law_404 : decode code 404 = .ok (.aload_n 2, 1) := by decide +kernel
theorem d_La_law_405 : decode code 405 = .ok (.invokevirtual 46, 3) := by decide +kernel
theorem d_La_law_408 : decode code 408 = .ok (.iload 5, 2) := by decide +kernel
theorem d_La_law_410 : decode code 410 = .ok (.if_icmp .eq 5, 3) := by decide +kernel
theorem d_La_law_413 : decode code 413 = .ok (.iconst 0, 1) := by decide +kernel
theorem d_La_law_414 : decode code 414 = .ok (.ireturn, 1) := by decide +kernel
theorem d_La_law_415 : decode code 415 = .ok (.iload 5, 2) := by decide +kernel
theorem d_La_law_417 : decode code 417 = .ok (.ifCond .ne 15, 3) := by decide +kernel
theorem d_La_law_420 : decode code 420 = .ok (.aload_n 3, 1) := by decide +kernel
theorem d_La_law_421 : decode code 421 = .ok (.iconst 0, 1) := by decide +kernel
theorem d_La_law_422 : decode code 422 = .ok (.laload, 1) := by decide +kernel
theorem d_La_law_423 : decode code 423 = .ok (.iload 6, 2) := by decide +kernel
theorem d_La_law_425 : decode code 425 = .ok (.i2l, 1) := by decide +kernel
theorem d_La_law_426 : decode code 426 = .ok (.lcmp, 1) := by decide +kernel
theorem d_La_law_427 : decode code 427 = .ok (.ifCond .eq 5, 3) := by decide +kernel
theorem d_La_law_430 : decode code 430 = .ok (.iconst 0, 1) := by decide +kernel
theorem d_La_law_431 : decode code 431 = .ok (.ireturn, 1) := by decide +kernel
theorem d_La_law_432 : decode code 432 = .ok (.goto 3, 3) := by decide +kernel
theorem d_La_law_435 : decode code 435 = .ok (.iinc 4 3, 3) := by decide +kernel
theorem d_La_law_438 : decode code 438 = .ok (.goto (-415), 3) := by decide +kernel
theorem d_La_law_441 : decode code 441 = .ok (.iconst 1, 1) := by decide +kernel
theorem d_La_law_442 : decode code 442 = .ok (.ireturn, 1) := by decide +kernel
end
section
/-! decode rows: Ma -/
theorem d_Ma_max_0 : decode c_Ma_max 0 = .ok (.iload_n 0, 1) := by decide +kernel
theorem d_Ma_max_1 : decode c_Ma_max 1 = .ok (.iload_n 1, 1) := by decide +kernel
theorem d_Ma_max_2 : decode c_Ma_max 2 = .ok (.if_icmp .lt 7, 3) := by decide +kernel
theorem d_Ma_max_5 : decode c_Ma_max 5 = .ok (.iload_n 0, 1) := by decide +kernel
theorem d_Ma_max_6 : decode c_Ma_max 6 = .ok (.goto 4, 3) := by decide +kernel
theorem d_Ma_max_9 : decode c_Ma_max 9 = .ok (.iload_n 1, 1) := by decide +kernel
theorem d_Ma_max_10 : decode c_Ma_max 10 = .ok (.ireturn, 1) := by decide +kernel
theorem d_Ma_min_0 : decode c_Ma_min 0 = .ok (.iload_n 0, 1) := by decide +kernel
theorem d_Ma_min_1 : decode c_Ma_min 1 = .ok (.iload_n 1, 1) := by decide +kernel
theorem d_Ma_min_2 : decode c_Ma_min 2 = .ok (.if_icmp .gt 7, 3) := by decide +kernel
theorem d_Ma_min_5 : decode c_Ma_min 5 = .ok (.iload_n 0, 1) := by decide +kernel
theorem d_Ma_min_6 : decode c_Ma_min 6 = .ok (.goto 4, 3) := by decide +kernel
theorem d_Ma_min_9 : decode c_Ma_min 9 = .ok (.iload_n 1, 1) := by decide +kernel
theorem d_Ma_min_10 : decode c_Ma_min 10 = .ok (.ireturn, 1) := by decide +kernel
theorem d_Ma_min2_0 : decode c_Ma_min2 0 = .ok (.lload_n 0, 1) := by decide +kernel
theorem d_Ma_min2_1 : decode c_Ma_min2 1 = .ok (.lload_n 2, 1) := by decide +kernel
theorem d_Ma_min2_2 : decode c_Ma_min2 2 = .ok (.lcmp, 1) := by decide +kernel
theorem d_Ma_min2_3 : decode c_Ma_min2 3 = .ok (.ifCond .gt 7, 3) := by decide +kernel
theorem d_Ma_min2_6 : decode c_Ma_min2 6 = .ok (.lload_n 0, 1) := by decide +kernel
theorem d_Ma_min2_7 : decode c_Ma_min2 7 = .ok (.goto 4, 3) := by decide +kernel
theorem d_Ma_min2_10 : decode c_Ma_min2 10 = .ok (.lload_n 2, 1) := by decide +kernel
theorem d_Ma_min2_11 : decode c_Ma_min2 11 = .ok (.lreturn, 1) := by decide +kernel
theorem d_Ma_max2_0 : decode c_Ma_max2 0 = .ok (.lload_n 0, 1) := by decide +kernel
theorem d_Ma_max2_1 : decode c_Ma_max2 1 = .ok (.lload_n 2, 1) := by decide +kernel
theorem d_Ma_max2_2 : decode c_Ma_max2 2 = .ok (.lcmp, 1) := by decide +kernel
theorem d_Ma_max2_3 : decode c_Ma_max2 3 = .ok (.ifCond .lt 7, 3) := by decide +kernel
theorem d_Ma_max2_6 : decode c_Ma_max2 6 = .ok (.lload_n 0, 1) := by decide +kernel
theorem d_Ma_max2_7 : decode c_Ma_max2 7 = .ok (.goto 4, 3) := by decide +kernel
theorem d_Ma_max2_10 : decode c_Ma_max2 10 = .ok (.lload_n 2, 1) := by decide +kernel
theorem d_Ma_max2_11 : decode c_Ma_max2 11 = .ok (.lreturn, 1) := by decide +kernel
end
section
/-! decode rows: Lo -/
theorem d_Lo_remainderUnsigned_0 : decode c_Lo_remainderUnsigned 0 = .ok (.lload_n 2, 1) := by decide +kernel
theorem d_Lo_remainderUnsigned_1 : decode c_Lo_remainderUnsigned 1 = .ok (.lconst 0, 1) := by decide +kernel
theorem d_Lo_remainderUnsigned_2 : decode c_Lo_remainderUnsigned 2 = .ok (.lcmp, 1) := by decide +kernel
theorem d_Lo_remainderUnsigned_3 : decode c_Lo_remainderUnsigned 3 = .ok (.ifCond .lt 37, 3) := by decide +kernel
theorem d_Lo_remainderUnsigned_6 : decode c_Lo_remainderUnsigned 6 = .ok (.lload_n 0, 1) := by decide +kernel
theorem d_Lo_remainderUnsigned_7 : decode c_Lo_remainderUnsigned 7 = .ok (.iconst 1, 1) := by decide +kernel
theorem d_Lo_remainderUnsigned_8 : decode c_Lo_remainderUnsigned 8 = .ok (.lushr, 1) := by decide +kernel
theorem d_Lo_remainderUnsigned_9 : decode c_Lo_remainderUnsigned 9 = .ok (.lload_n 2, 1) := by decide +kernel
theorem d_Lo_remainderUnsigned_10 : decode c_Lo_remainderUnsigned 10 = .ok (.ldiv, 1) := by decide +kernel
theorem d_Lo_remainderUnsigned_11 : decode c_Lo_remainderUnsigned 11 = .ok (.iconst 1, 1) := by decide +kernel
theorem d_Lo_remainderUnsigned_12 : decode c_Lo_remainderUnsigned 12 = .ok (.lshl, 1) := by decide +kernel
theorem d_Lo_remainderUnsigned_13 : decode c_Lo_remainderUnsigned 13 = .ok (.lstore 4, 2) := by decide +kernel
theorem d_Lo_remainderUnsigned_15 : decode c_Lo_remainderUnsigned 15 = .ok (.lload_n 0, 1) := by decide +kernel
theorem d_Lo_remainderUnsigned_16 : decode c_Lo_remainderUnsigned 16 = .ok (.lload 4, 2) := by decide +kernel
theorem d_Lo_remainderUnsigned_18 : decode c_Lo_remainderUnsigned 18 = .ok (.lload_n 2, 1) := by decide +kernel
theorem d_Lo_remainderUnsigned_19 : decode c_Lo_remainderUnsigned 19 = .ok (.lmul, 1) := by decide +kernel
theorem d_Lo_remainderUnsigned_20 : decode c_Lo_remainderUnsigned 20 = .ok (.lsub, 1) := by decide +kernel
theorem d_Lo_remainderUnsigned_21 : decode c_Lo_remainderUnsigned 21 = .ok (.lstore 6, 2) := by decide +kernel
theorem d_Lo_remainderUnsigned_23 : decode c_Lo_remainderUnsigned 23 = .ok (.lload 6, 2) := by decide +kernel
theorem d_Lo_remainderUnsigned_25 : decode c_Lo_remainderUnsigned 25 = .ok (.lload 6, 2) := by decide +kernel
theorem d_Lo_remainderUnsigned_27 : decode c_Lo_remainderUnsigned 27 = .ok (.lload_n 2, 1) := by decide +kernel
theorem d_Lo_remainderUnsigned_28 : decode c_Lo_remainderUnsigned 28 = .ok (.lsub, 1) := by decide +kernel
theorem d_Lo_remainderUnsigned_29 : decode c_Lo_remainderUnsigned 29 = .ok (.ldc2_w 306, 3) := by decide +kernel
theorem d_Lo_remainderUnsigned_32 : decode c_Lo_remainderUnsigned 32 = .ok (.lxor, 1) := by decide +kernel
theorem d_Lo_remainderUnsigned_33 : decode c_Lo_remainderUnsigned 33 = .ok (.bipush 63, 2) := by decide +kernel
theorem d_Lo_remainderUnsigned_35 : decode c_Lo_remainderUnsigned 35 = .ok (.lshr, 1) := by decide +kernel
theorem d_Lo_remainderUnsigned_36 : decode c_Lo_remainderUnsigned 36 = .ok (.lload_n 2, 1) := by decide +kernel
theorem d_Lo_remainderUnsigned_37 : decode c_Lo_remainderUnsigned 37 = .ok (.land, 1) := by decide +kernel
theorem d_Lo_remainderUnsigned_38 : decode c_Lo_remainderUnsigned 38 = .ok (.lsub, 1) := by decide +kernel
theorem d_Lo_remainderUnsigned_39 : decode c_Lo_remainderUnsigned 39 = .ok (.lreturn, 1) := by decide +kernel
theorem d_Lo_remainderUnsigned_40 : decode c_Lo_remainderUnsigned 40 = .ok (.lload_n 0, 1) := by decide +kernel
theorem d_Lo_remainderUnsigned_41 : decode c_Lo_remainderUnsigned 41 = .ok (.lload_n 0, 1) := by decide +kernel
theorem d_Lo_remainderUnsigned_42 : decode c_Lo_remainderUnsigned 42 = .ok (.lload_n 0, 1) := by decide +kernel
theorem d_Lo_remainderUnsigned_43 : decode c_Lo_remainderUnsigned 43 = .ok (.lload_n 2, 1) := by decide +kernel
theorem d_Lo_remainderUnsigned_44 : decode c_Lo_remainderUnsigned 44 = .ok (.lsub, 1) := by decide +kernel
theorem d_Lo_remainderUnsigned_45 : decode c_Lo_remainderUnsigned 45 = .ok (.ldc2_w 306, 3) := by decide +kernel
theorem d_Lo_remainderUnsigned_48 : decode c_Lo_remainderUnsigned 48 = .ok (.lxor, 1) := by decide +kernel
theorem d_Lo_remainderUnsigned_49 : decode c_Lo_remainderUnsigned 49 = .ok (.land, 1) := by decide +kernel
theorem d_Lo_remainderUnsigned_50 : decode c_Lo_remainderUnsigned 50 = .ok (.bipush 63, 2) := by decide +kernel
theorem d_Lo_remainderUnsigned_52 : decode c_Lo_remainderUnsigned 52 = .ok (.lshr, 1) := by decide +kernel
theorem d_Lo_remainderUnsigned_53 : decode c_Lo_remainderUnsigned 53 = .ok (.lload_n 2, 1) := by decide +kernel
theorem d_Lo_remainderUnsigned_54 : decode c_Lo_remainderUnsigned 54 = .ok (.land, 1) := by decide +kernel
theorem d_Lo_remainderUnsigned_55 : decode c_Lo_remainderUnsigned 55 = .ok (.lsub, 1) := by decide +kernel
theorem d_Lo_remainderUnsigned_56 : decode c_Lo_remainderUnsigned 56 = .ok (.lreturn, 1) := by decide +kernel
theorem d_Lo_divideUnsigned_0 : decode c_Lo_divideUnsigned 0 = .ok (.lload_n 2, 1) := by decide +kernel
theorem d_Lo_divideUnsigned_1 : decode c_Lo_divideUnsigned 1 = .ok (.lconst 0, 1) := by decide +kernel
theorem d_Lo_divideUnsigned_2 : decode c_Lo_divideUnsigned 2 = .ok (.lcmp, 1) := by decide +kernel
theorem d_Lo_divideUnsigned_3 : decode c_Lo_divideUnsigned 3 = .ok (.ifCond .lt 38, 3) := by decide +kernel
theorem d_Lo_divideUnsigned_6 : decode c_Lo_divideUnsigned 6 = .ok (.lload_n 0, 1) := by decide +kernel
theorem d_Lo_divideUnsigned_7 : decode c_Lo_divideUnsigned 7 = .ok (.iconst 1, 1) := by decide +kernel
theorem d_Lo_divideUnsigned_8 : decode c_Lo_divideUnsigned 8 = .ok (.lushr, 1) := by decide +kernel
theorem d_Lo_divideUnsigned_9 : decode c_Lo_divideUnsigned 9 = .ok (.lload_n 2, 1) := by decide +kernel
theorem d_Lo_divideUnsigned_10 : decode c_Lo_divideUnsigned 10 = .ok (.ldiv, 1) := by decide +kernel
theorem d_Lo_divideUnsigned_11 : decode c_Lo_divideUnsigned 11 = .ok (.iconst 1, 1) := by decide +kernel
theorem d_Lo_divideUnsigned_12 : decode c_Lo_divideUnsigned 12 = .ok (.lshl, 1) := by decide +kernel
theorem d_Lo_divideUnsigned_13 : decode c_Lo_divideUnsigned 13 = .ok (.lstore 4, 2) := by decide +kernel
theorem d_Lo_divideUnsigned_15 : decode c_Lo_divideUnsigned 15 = .ok (.lload_n 0, 1) := by decide +kernel
theorem d_Lo_divideUnsigned_16 : decode c_Lo_divideUnsigned 16 = .ok (.lload 4, 2) := by decide +kernel
theorem d_Lo_divideUnsigned_18 : decode c_Lo_divideUnsigned 18 = .ok (.lload_n 2, 1) := by decide +kernel
theorem d_Lo_divideUnsigned_19 : decode c_Lo_divideUnsigned 19 = .ok (.lmul, 1) := by decide +kernel
theorem d_Lo_divideUnsigned_20 : decode c_Lo_divideUnsigned 20 = .ok (.lsub, 1) := by decide +kernel
theorem d_Lo_divideUnsigned_21 : decode c_Lo_divideUnsigned 21 = .ok (.lstore 6, 2) := by decide +kernel
theorem d_Lo_divideUnsigned_23 : decode c_Lo_divideUnsigned 23 = .ok (.lload 4, 2) := by decide +kernel
theorem d_Lo_divideUnsigned_25 : decode c_Lo_divideUnsigned 25 = .ok (.lload 6, 2) := by decide +kernel
theorem d_Lo_divideUnsigned_27 : decode c_Lo_divideUnsigned 27 = .ok (.lload 6, 2) := by decide +kernel
theorem d_Lo_divideUnsigned_29 : decode c_Lo_divideUnsigned 29 = .ok (.lload_n 2, 1) := by decide +kernel
theorem d_Lo_divideUnsigned_30 : decode c_Lo_divideUnsigned 30 = .ok (.lsub, 1) := by decide +kernel
theorem d_Lo_divideUnsigned_31 : decode c_Lo_divideUnsigned 31 = .ok (.ldc2_w 306, 3) := by decide +kernel
theorem d_Lo_divideUnsigned_34 : decode c_Lo_divideUnsigned 34 = .ok (.lxor, 1) := by decide +kernel
theorem d_Lo_divideUnsigned_35 : decode c_Lo_divideUnsigned 35 = .ok (.lor, 1) := by decide +kernel
theorem d_Lo_divideUnsigned_36 : decode c_Lo_divideUnsigned 36 = .ok (.bipush 63, 2) := by decide +kernel
theorem d_Lo_divideUnsigned_38 : decode c_Lo_divideUnsigned 38 = .ok (.lushr, 1) := by decide +kernel
theorem d_Lo_divideUnsigned_39 : decode c_Lo_divideUnsigned 39 = .ok (.ladd, 1) := by decide +kernel
theorem d_Lo_divideUnsigned_40 : decode c_Lo_divideUnsigned 40 = .ok (.lreturn, 1) := by decide +kernel
theorem d_Lo_divideUnsigned_41 : decode c_Lo_divideUnsigned 41 = .ok (.lload_n 0, 1) := by decide +kernel
theorem d_Lo_divideUnsigned_42 : decode c_Lo_divideUnsigned 42 = .ok (.lload_n 0, 1) := by decide +kernel
theorem d_Lo_divideUnsigned_43 : decode c_Lo_divideUnsigned 43 = .ok (.lload_n 2, 1) := by decide +kernel
theorem d_Lo_divideUnsigned_44 : decode c_Lo_divideUnsigned 44 = .ok (.lsub, 1) := by decide +kernel
theorem d_Lo_divideUnsigned_45 : decode c_Lo_divideUnsigned 45 = .ok (.ldc2_w 306, 3) := by decide +kernel
theorem d_Lo_divideUnsigned_48 : decode c_Lo_divideUnsigned 48 = .ok (.lxor, 1) := by decide +kernel
theorem d_Lo_divideUnsigned_49 : decode c_Lo_divideUnsigned 49 = .ok (.land, 1) := by decide +kernel
theorem d_Lo_divideUnsigned_50 : decode c_Lo_divideUnsigned 50 = .ok (.bipush 63, 2) := by decide +kernel
theorem d_Lo_divideUnsigned_52 : decode c_Lo_divideUnsigned 52 = .ok (.lushr, 1) := by decide +kernel
theorem d_Lo_divideUnsigned_53 : decode c_Lo_divideUnsigned 53 = .ok (.lreturn, 1) := by decide +kernel
end
section
/-! decode rows: St -/
theorem d_St_indexOf_0 : decode c_St_indexOf 0 = .ok (.aload_n 0, 1) := by decide +kernel
theorem d_St_indexOf_1 : decode c_St_indexOf 1 = .ok (.iload_n 1, 1) := by decide +kernel
theorem d_St_indexOf_2 : decode c_St_indexOf 2 = .ok (.iconst 0, 1) := by decide +kernel
theorem d_St_indexOf_3 : decode c_St_indexOf 3 = .ok (.invokevirtual 633, 3) := by decide +kernel
theorem d_St_indexOf_6 : decode c_St_indexOf 6 = .ok (.ireturn, 1) := by decide +kernel
theorem d_St_indexOf2_0 : decode c_St_indexOf2 0 = .ok (.aload_n 0, 1) := by decide +kernel
theorem d_St_indexOf2_1 : decode c_St_indexOf2 1 = .ok (.invokevirtual 492, 3) := by decide +kernel
theorem d_St_indexOf2_4 : decode c_St_indexOf2 4 = .ok (.ifCond .eq 19, 3) := by decide +kernel
theorem d_St_indexOf2_7 : decode c_St_indexOf2 7 = .ok (.aload_n 0, 1) := by decide +kernel
theorem d_St_indexOf2_8 : decode c_St_indexOf2 8 = .ok (.getfield 9, 3) := by decide +kernel
theorem d_St_indexOf2_11 : decode c_St_indexOf2 11 = .ok (.iload_n 1, 1) := by decide +kernel
theorem d_St_indexOf2_12 : decode c_St_indexOf2 12 = .ok (.iload_n 2, 1) := by decide +kernel
theorem d_St_indexOf2_13 : decode c_St_indexOf2 13 = .ok (.aload_n 0, 1) := by decide +kernel
theorem d_St_indexOf2_14 : decode c_St_indexOf2 14 = .ok (.invokevirtual 505, 3) := by decide +kernel
theorem d_St_indexOf2_17 : decode c_St_indexOf2 17 = .ok (.invokestatic 637, 3) := by decide +kernel
theorem d_St_indexOf2_20 : decode c_St_indexOf2 20 = .ok (.goto 16, 3) := by decide +kernel
theorem d_St_indexOf2_23 : decode c_St_indexOf2 23 = .ok (.aload_n 0, 1) := by decide +kernel
theorem d_St_indexOf2_24 : decode c_St_indexOf2 24 = .ok (.getfield 9, 3) := by decide +kernel
theorem d_St_indexOf2_27 : decode c_St_indexOf2 27 = .ok (.iload_n 1, 1) := by decide +kernel
theorem d_St_indexOf2_28 : decode c_St_indexOf2 28 = .ok (.iload_n 2, 1) := by decide +kernel
theorem d_St_indexOf2_29 : decode c_St_indexOf2 29 = .ok (.aload_n 0, 1) := by decide +kernel
theorem d_St_indexOf2_30 : decode c_St_indexOf2 30 = .ok (.invokevirtual 505, 3) := by decide +kernel
theorem d_St_indexOf2_33 : decode c_St_indexOf2 33 = .ok (.invokestatic 640, 3) := by decide +kernel
theorem d_St_indexOf2_36 : decode c_St_indexOf2 36 = .ok (.ireturn, 1) := by decide +kernel
theorem d_St_isLatin1_0 : decode c_St_isLatin1 0 = .ok (.getstatic 38, 3) := by decide +kernel
theorem d_St_isLatin1_3 : decode c_St_isLatin1 3 = .ok (.ifCond .eq 14, 3) := by decide +kernel
theorem d_St_isLatin1_6 : decode c_St_isLatin1 6 = .ok (.aload_n 0, 1) := by decide +kernel
theorem d_St_isLatin1_7 : decode c_St_isLatin1 7 = .ok (.getfield 15, 3) := by decide +kernel
theorem d_St_isLatin1_10 : decode c_St_isLatin1 10 = .ok (.ifCond .ne 7, 3) := by decide +kernel
theorem d_St_isLatin1_13 : decode c_St_isLatin1 13 = .ok (.iconst 1, 1) := by decide +kernel
theorem d_St_isLatin1_14 : decode c_St_isLatin1 14 = .ok (.goto 4, 3) := by decide +kernel
theorem d_St_isLatin1_17 : decode c_St_isLatin1 17 = .ok (.iconst 0, 1) := by decide +kernel
theorem d_St_isLatin1_18 : decode c_St_isLatin1 18 = .ok (.ireturn, 1) := by decide +kernel
theorem d_St_length_0 : decode c_St_length 0 = .ok (.aload_n 0, 1) := by decide +kernel
theorem d_St_length_1 : decode c_St_length 1 = .ok (.getfield 9, 3) := by decide +kernel
theorem d_St_length_4 : decode c_St_length 4 = .ok (.arraylength, 1) := by decide +kernel
theorem d_St_length_5 : decode c_St_length 5 = .ok (.aload_n 0, 1) := by decide +kernel
theorem d_St_length_6 : decode c_St_length 6 = .ok (.invokevirtual 335, 3) := by decide +kernel
theorem d_St_length_9 : decode c_St_length 9 = .ok (.ishr, 1) := by decide +kernel
theorem d_St_length_10 : decode c_St_length 10 = .ok (.ireturn, 1) := by decide +kernel
theorem d_St_coder_0 : decode c_St_coder 0 = .ok (.getstatic 38, 3) := by decide +kernel
theorem d_St_coder_3 : decode c_St_coder 3 = .ok (.ifCond .eq 10, 3) := by decide +kernel
theorem d_St_coder_6 : decode c_St_coder 6 = .ok (.aload_n 0, 1) := by decide +kernel
theorem d_St_coder_7 : decode c_St_coder 7 = .ok (.getfield 15, 3) := by decide +kernel
theorem d_St_coder_10 : decode c_St_coder 10 = .ok (.goto 4, 3) := by decide +kernel
theorem d_St_coder_13 : decode c_St_coder 13 = .ok (.iconst 1, 1) := by decide +kernel
theorem d_St_coder_14 : decode c_St_coder 14 = .ok (.ireturn, 1) := by decide +kernel
theorem d_St_checkBoundsBeginEnd_0 : decode c_St_checkBoundsBeginEnd 0 = .ok (.iload_n 0, 1) := by decide +kernel
theorem d_St_checkBoundsBeginEnd_1 : decode c_St_checkBoundsBeginEnd 1 = .ok (.iload_n 1, 1) := by decide +kernel
theorem d_St_checkBoundsBeginEnd_2 : decode c_St_checkBoundsBeginEnd 2 = .ok (.iload_n 2, 1) := by decide +kernel
theorem d_St_checkBoundsBeginEnd_3 : decode c_St_checkBoundsBeginEnd 3 = .ok (.getstatic 1053, 3) := by decide +kernel
theorem d_St_checkBoundsBeginEnd_6 : decode c_St_checkBoundsBeginEnd 6 = .ok (.invokestatic 1062, 3) := by decide +kernel
theorem d_St_checkBoundsBeginEnd_9 : decode c_St_checkBoundsBeginEnd 9 = .ok (.pop, 1) := by decide +kernel
theorem d_St_checkBoundsBeginEnd_10 : decode c_St_checkBoundsBeginEnd 10 = .ok (.return_, 1) := by decide +kernel
theorem d_St_charAt_0 : decode c_St_charAt 0 = .ok (.aload_n 0, 1) := by decide +kernel
theorem d_St_charAt_1 : decode c_St_charAt 1 = .ok (.invokevirtual 492, 3) := by decide +kernel
theorem d_St_charAt_4 : decode c_St_charAt 4 = .ok (.ifCond .eq 12, 3) := by decide +kernel
theorem d_St_charAt_7 : decode c_St_charAt 7 = .ok (.aload_n 0, 1) := by decide +kernel
theorem d_St_charAt_8 : decode c_St_charAt 8 = .ok (.getfield 9, 3) := by decide +kernel
theorem d_St_charAt_11 : decode c_St_charAt 11 = .ok (.iload_n 1, 1) := by decide +kernel
theorem d_St_charAt_12 : decode c_St_charAt 12 = .ok (.invokestatic 495, 3) := by decide +kernel
theorem d_St_charAt_15 : decode c_St_charAt 15 = .ok (.ireturn, 1) := by decide +kernel
theorem d_St_charAt_16 : decode c_St_charAt 16 = .ok (.aload_n 0, 1) := by decide +kernel
theorem d_St_charAt_17 : decode c_St_charAt 17 = .ok (.getfield 9, 3) := by decide +kernel
theorem d_St_charAt_20 : decode c_St_charAt 20 = .ok (.iload_n 1, 1) := by decide +kernel
theorem d_St_charAt_21 : decode c_St_charAt 21 = .ok (.invokestatic 498, 3) := by decide +kernel
theorem d_St_charAt_24 : decode c_St_charAt 24 = .ok (.ireturn, 1) := by decide +kernel
theorem d_St_checkIndex_0 : decode c_St_checkIndex 0 = .ok (.iload_n 0, 1) := by decide +kernel
theorem d_St_checkIndex_1 : decode c_St_checkIndex 1 = .ok (.iload_n 1, 1) := by decide +kernel
theorem d_St_checkIndex_2 : decode c_St_checkIndex 2 = .ok (.getstatic 1053, 3) := by decide +kernel
theorem d_St_checkIndex_5 : decode c_St_checkIndex 5 = .ok (.invokestatic 1059, 3) := by decide +kernel
theorem d_St_checkIndex_8 : decode c_St_checkIndex 8 = .ok (.pop, 1) := by decide +kernel
theorem d_St_checkIndex_9 : decode c_St_checkIndex 9 = .ok (.return_, 1) := by decide +kernel
end
section
/-! decode rows: Sl -/
theorem d_Sl_indexOf_0 : decode c_Sl_indexOf 0 = .ok (.iload_n 1, 1) := by decide +kernel
theorem d_Sl_indexOf_1 : decode c_Sl_indexOf 1 = .ok (.invokestatic 88, 3) := by decide +kernel
theorem d_Sl_indexOf_4 : decode c_Sl_indexOf 4 = .ok (.ifCond .ne 5, 3) := by decide +kernel
theorem d_Sl_indexOf_7 : decode c_Sl_indexOf 7 = .ok (.iconst (-1), 1) := by decide +kernel
theorem d_Sl_indexOf_8 : decode c_Sl_indexOf 8 = .ok (.ireturn, 1) := by decide +kernel
theorem d_Sl_indexOf_9 : decode c_Sl_indexOf 9 = .ok (.iload_n 2, 1) := by decide +kernel
theorem d_Sl_indexOf_10 : decode c_Sl_indexOf 10 = .ok (.iconst 0, 1) := by decide +kernel
theorem d_Sl_indexOf_11 : decode c_Sl_indexOf 11 = .ok (.invokestatic 92, 3) := by decide +kernel
theorem d_Sl_indexOf_14 : decode c_Sl_indexOf 14 = .ok (.istore_n 2, 1) := by decide +kernel
theorem d_Sl_indexOf_15 : decode c_Sl_indexOf 15 = .ok (.iload_n 3, 1) := by decide +kernel
theorem d_Sl_indexOf_16 : decode c_Sl_indexOf 16 = .ok (.aload_n 0, 1) := by decide +kernel
theorem d_Sl_indexOf_17 : decode c_Sl_indexOf 17 = .ok (.arraylength, 1) := by decide +kernel
theorem d_Sl_indexOf_18 : decode c_Sl_indexOf 18 = .ok (.invokestatic 38, 3) := by decide +kernel
theorem d_Sl_indexOf_21 : decode c_Sl_indexOf 21 = .ok (.istore_n 3, 1) := by decide +kernel
theorem d_Sl_indexOf_22 : decode c_Sl_indexOf 22 = .ok (.iload_n 2, 1) := by decide +kernel
theorem d_Sl_indexOf_23 : decode c_Sl_indexOf 23 = .ok (.iload_n 3, 1) := by decide +kernel
theorem d_Sl_indexOf_24 : decode c_Sl_indexOf 24 = .ok (.if_icmp .lt 5, 3) := by decide +kernel
theorem d_Sl_indexOf_27 : decode c_Sl_indexOf 27 = .ok (.iconst (-1), 1) := by decide +kernel
theorem d_Sl_indexOf_28 : decode c_Sl_indexOf 28 = .ok (.ireturn, 1) := by decide +kernel
theorem d_Sl_indexOf_29 : decode c_Sl_indexOf 29 = .ok (.aload_n 0, 1) := by decide +kernel
theorem d_Sl_indexOf_30 : decode c_Sl_indexOf 30 = .ok (.iload_n 1, 1) := by decide +kernel
theorem d_Sl_indexOf_31 : decode c_Sl_indexOf 31 = .ok (.iload_n 2, 1) := by decide +kernel
theorem d_Sl_indexOf_32 : decode c_Sl_indexOf 32 = .ok (.iload_n 3, 1) := by decide +kernel
theorem d_Sl_indexOf_33 : decode c_Sl_indexOf 33 = .ok (.invokestatic 95, 3) := by decide +kernel
theorem d_Sl_indexOf_36 : decode c_Sl_indexOf 36 = .ok (.ireturn, 1) := by decide +kernel
theorem d_Sl_canEncode_0 : decode c_Sl_canEncode 0 = .ok (.iload_n 0, 1) := by decide +kernel
theorem d_Sl_canEncode_1 : decode c_Sl_canEncode 1 = .ok (.ifCond .lt 14, 3) := by decide +kernel
theorem d_Sl_canEncode_4 : decode c_Sl_canEncode 4 = .ok (.iload_n 0, 1) := by decide +kernel
theorem d_Sl_canEncode_5 : decode c_Sl_canEncode 5 = .ok (.sipush 255, 3) := by decide +kernel
theorem d_Sl_canEncode_8 : decode c_Sl_canEncode 8 = .ok (.if_icmp .gt 7, 3) := by decide +kernel
theorem d_Sl_canEncode_11 : decode c_Sl_canEncode 11 = .ok (.iconst 1, 1) := by decide +kernel
theorem d_Sl_canEncode_12 : decode c_Sl_canEncode 12 = .ok (.goto 4, 3) := by decide +kernel
theorem d_Sl_canEncode_15 : decode c_Sl_canEncode 15 = .ok (.iconst 0, 1) := by decide +kernel
theorem d_Sl_canEncode_16 : decode c_Sl_canEncode 16 = .ok (.ireturn, 1) := by decide +kernel
theorem d_Sl_indexOfChar_0 : decode c_Sl_indexOfChar 0 = .ok (.iload_n 1, 1) := by decide +kernel
theorem d_Sl_indexOfChar_1 : decode c_Sl_indexOfChar 1 = .ok (.i2b, 1) := by decide +kernel
theorem d_Sl_indexOfChar_2 : decode c_Sl_indexOfChar 2 = .ok (.istore 4, 2) := by decide +kernel
theorem d_Sl_indexOfChar_4 : decode c_Sl_indexOfChar 4 = .ok (.iload_n 2, 1) := by decide +kernel
theorem d_Sl_indexOfChar_5 : decode c_Sl_indexOfChar 5 = .ok (.istore 5, 2) := by decide +kernel
theorem d_Sl_indexOfChar_7 : decode c_Sl_indexOfChar 7 = .ok (.iload 5, 2) := by decide +kernel
theorem d_Sl_indexOfChar_9 : decode c_Sl_indexOfChar 9 = .ok (.iload_n 3, 1) := by decide +kernel
theorem d_Sl_indexOfChar_10 : decode c_Sl_indexOfChar 10 = .ok (.if_icmp .ge 21, 3) := by decide +kernel
theorem d_Sl_indexOfChar_13 : decode c_Sl_indexOfChar 13 = .ok (.aload_n 0, 1) := by decide +kernel
theorem d_Sl_indexOfChar_14 : decode c_Sl_indexOfChar 14 = .ok (.iload 5, 2) := by decide +kernel
theorem d_Sl_indexOfChar_16 : decode c_Sl_indexOfChar 16 = .ok (.baload, 1) := by decide +kernel
theorem d_Sl_indexOfChar_17 : decode c_Sl_indexOfChar 17 = .ok (.iload 4, 2) := by decide +kernel
theorem d_Sl_indexOfChar_19 : decode c_Sl_indexOfChar 19 = .ok (.if_icmp .ne 6, 3) := by decide +kernel
theorem d_Sl_indexOfChar_22 : decode c_Sl_indexOfChar 22 = .ok (.iload 5, 2) := by decide +kernel
theorem d_Sl_indexOfChar_24 : decode c_Sl_indexOfChar 24 = .ok (.ireturn, 1) := by decide +kernel
theorem d_Sl_indexOfChar_25 : decode c_Sl_indexOfChar 25 = .ok (.iinc 5 1, 3) := by decide +kernel
theorem d_Sl_indexOfChar_28 : decode c_Sl_indexOfChar 28 = .ok (.goto (-21), 3) := by decide +kernel
theorem d_Sl_indexOfChar_31 : decode c_Sl_indexOfChar 31 = .ok (.iconst (-1), 1) := by decide +kernel
theorem d_Sl_indexOfChar_32 : decode c_Sl_indexOfChar 32 = .ok (.ireturn, 1) := by decide +kernel
theorem d_Sl_charAt_0 : decode c_Sl_charAt 0 = .ok (.iload_n 1, 1) := by decide +kernel
theorem d_Sl_charAt_1 : decode c_Sl_charAt 1 = .ok (.aload_n 0, 1) := by decide +kernel
theorem d_Sl_charAt_2 : decode c_Sl_charAt 2 = .ok (.arraylength, 1) := by decide +kernel
theorem d_Sl_charAt_3 : decode c_Sl_charAt 3 = .ok (.invokestatic 9, 3) := by decide +kernel
theorem d_Sl_charAt_6 : decode c_Sl_charAt 6 = .ok (.aload_n 0, 1) := by decide +kernel
theorem d_Sl_charAt_7 : decode c_Sl_charAt 7 = .ok (.iload_n 1, 1) := by decide +kernel
theorem d_Sl_charAt_8 : decode c_Sl_charAt 8 = .ok (.baload, 1) := by decide +kernel
theorem d_Sl_charAt_9 : decode c_Sl_charAt 9 = .ok (.sipush 255, 3) := by decide +kernel
theorem d_Sl_charAt_12 : decode c_Sl_charAt 12 = .ok (.iand, 1) := by decide +kernel
theorem d_Sl_charAt_13 : decode c_Sl_charAt 13 = .ok (.i2c, 1) := by decide +kernel
theorem d_Sl_charAt_14 : decode c_Sl_charAt 14 = .ok (.ireturn, 1) := by decide +kernel
end
section
/-! decode rows: Pr -/
theorem d_Pr_checkFromToIndex_0 : decode c_Pr_checkFromToIndex 0 = .ok (.iload_n 0, 1) := by decide +kernel
theorem d_Pr_checkFromToIndex_1 : decode c_Pr_checkFromToIndex 1 = .ok (.ifCond .lt 13, 3) := by decide +kernel
theorem d_Pr_checkFromToIndex_4 : decode c_Pr_checkFromToIndex 4 = .ok (.iload_n 0, 1) := by decide +kernel
theorem d_Pr_checkFromToIndex_5 : decode c_Pr_checkFromToIndex 5 = .ok (.iload_n 1, 1) := by decide +kernel
theorem d_Pr_checkFromToIndex_6 : decode c_Pr_checkFromToIndex 6 = .ok (.if_icmp .gt 8, 3) := by decide +kernel
theorem d_Pr_checkFromToIndex_9 : decode c_Pr_checkFromToIndex 9 = .ok (.iload_n 1, 1) := by decide +kernel
theorem d_Pr_checkFromToIndex_10 : decode c_Pr_checkFromToIndex 10 = .ok (.iload_n 2, 1) := by decide +kernel
theorem d_Pr_checkFromToIndex_11 : decode c_Pr_checkFromToIndex 11 = .ok (.if_icmp .le 11, 3) := by decide +kernel
theorem d_Pr_checkFromToIndex_14 : decode c_Pr_checkFromToIndex 14 = .ok (.aload_n 3, 1) := by decide +kernel
theorem d_Pr_checkFromToIndex_15 : decode c_Pr_checkFromToIndex 15 = .ok (.iload_n 0, 1) := by decide +kernel
theorem d_Pr_checkFromToIndex_16 : decode c_Pr_checkFromToIndex 16 = .ok (.iload_n 1, 1) := by decide +kernel
theorem d_Pr_checkFromToIndex_17 : decode c_Pr_checkFromToIndex 17 = .ok (.iload_n 2, 1) := by decide +kernel
theorem d_Pr_checkFromToIndex_18 : decode c_Pr_checkFromToIndex 18 = .ok (.invokestatic 99, 3) := by decide +kernel
theorem d_Pr_checkFromToIndex_21 : decode c_Pr_checkFromToIndex 21 = .ok (.athrow, 1) := by decide +kernel
theorem d_Pr_checkFromToIndex_22 : decode c_Pr_checkFromToIndex 22 = .ok (.iload_n 0, 1) := by decide +kernel
theorem d_Pr_checkFromToIndex_23 : decode c_Pr_checkFromToIndex 23 = .ok (.ireturn, 1) := by decide +kernel
theorem d_Pr_checkIndex_0 : decode c_Pr_checkIndex 0 = .ok (.iload_n 0, 1) := by decide +kernel
theorem d_Pr_checkIndex_1 : decode c_Pr_checkIndex 1 = .ok (.ifCond .lt 8, 3) := by decide +kernel
theorem d_Pr_checkIndex_4 : decode c_Pr_checkIndex 4 = .ok (.iload_n 0, 1) := by decide +kernel
theorem d_Pr_checkIndex_5 : decode c_Pr_checkIndex 5 = .ok (.iload_n 1, 1) := by decide +kernel
theorem d_Pr_checkIndex_6 : decode c_Pr_checkIndex 6 = .ok (.if_icmp .lt 10, 3) := by decide +kernel
theorem d_Pr_checkIndex_9 : decode c_Pr_checkIndex 9 = .ok (.aload_n 2, 1) := by decide +kernel
theorem d_Pr_checkIndex_10 : decode c_Pr_checkIndex 10 = .ok (.iload_n 0, 1) := by decide +kernel
theorem d_Pr_checkIndex_11 : decode c_Pr_checkIndex 11 = .ok (.iload_n 1, 1) := by decide +kernel
theorem d_Pr_checkIndex_12 : decode c_Pr_checkIndex 12 = .ok (.invokestatic 95, 3) := by decide +kernel
theorem d_Pr_checkIndex_15 : decode c_Pr_checkIndex 15 = .ok (.athrow, 1) := by decide +kernel
theorem d_Pr_checkIndex_16 : decode c_Pr_checkIndex 16 = .ok (.iload_n 0, 1) := by decide +kernel
theorem d_Pr_checkIndex_17 : decode c_Pr_checkIndex 17 = .ok (.ireturn, 1) := by decide +kernel
end
section
/-! more rows of the abstract layer -/
section AXM
variable {p : Program} {l : Launch} {e : Env} {R : Room} {s : State} {m : MethodId} {args : Array Value} {below : List Frame} {meth : Method} {c : Code} {cells slots : Nat} {Q : State → Prop}
variable {D : va_G} {cid : Nat → ClassId} {ad : Nat → Nat} {A : Nat → Prop} {nL : Nat} {Ts : List Cond} {own : String} {cc : ByteArray}
variable {pc : Nat} {lv : List (Nat × Value)} {st : List Value} {h : ax_H}
theorem ax_iincZ (G : ax_G p s m args meth c Ts own cc nL D cid ad A) {i : Nat} {n : Int} {x z : Int32} (d : decode cc pc = .ok (.iinc i n, 3)) (hv : ax_q i lv = some (.int x)) (hz : Int32.ofInt n = z) (hn : i < nL) (k : ax_V p l e R s m args below meth c D cid ad A nL cells slots Q (pc + 3) (ax_s1 i (.int (x + z)) lv) st h) : ax_V p l e R s m args below meth c D cid ad A nL cells slots Q pc lv st h :=
  ax_iinc G d hv (by rw [hz]) hn k
end AXM
/-- the decimal number: object 9, limbs 10, digits 11 -/
abbrev pc_De (lc dc pt : Int32) (lm : Nat → Int64) (dg : Nat → Int32) : ax_H := [(9, .inr (0, [.ref 10, .int lc, .ref 11, .int dc, .int pt])), (10, .inl (2, 86, .inr (.inl lm))), (11, .inl (1, 774, .inl dg))]
end
section
/-! pure rows: octets of a long -/
/-- the octet i of a word, the highest first -/
def oc (w : Int64) (i : Nat) : Nat := w.toBitVec.toNat / 2 ^ (56 - 8 * i) % 256
theorem oc_lt (w : Int64) (i : Nat) : oc w i < 256 := Nat.mod_lt _ (by decide)
theorem l2i_nat (x : Int64) : x.toInt32.toBitVec.toNat = x.toBitVec.toNat % 2 ^ 32 := by
  rw [Int64.toBitVec_toInt32, BitVec.signExtend_eq_setWidth_of_le _ (by decide), BitVec.toNat_setWidth]
theorem ush_nat (w : Int64) (z : UInt64) : (w.toUInt64 >>> z).toInt64.toBitVec.toNat = w.toBitVec.toNat / 2 ^ (z.toNat % 64) := by
  show (w.toUInt64 >>> z).toNat = _
  rw [UInt64.toNat_shiftRight, Nat.shiftRight_eq_div_pow]
  rfl
theorem oc_row (w : Int64) (k : Nat) (z : UInt64) (hz : z.toNat % 64 = k) : ((w.toUInt64 >>> z).toInt64.toInt32 &&& 255) = nI (w.toBitVec.toNat / 2 ^ k % 256) := by
  rw [pk_and _ 8 (by decide), l2i_nat, ush_nat, hz]
  congr 1
  omega
theorem oc_i (w : Int64) (i : Nat) (hi : i < 8) : ((w.toUInt64 >>> ((56 - 8 * nI i : Int32).toInt64.toUInt64 &&& Int64.toUInt64 63)).toInt64.toInt32 &&& 255) = nI (oc w i) := by
  rcases (show i = 0 ∨ i = 1 ∨ i = 2 ∨ i = 3 ∨ i = 4 ∨ i = 5 ∨ i = 6 ∨ i = 7 by omega) with rfl | rfl | rfl | rfl | rfl | rfl | rfl | rfl <;> exact oc_row w _ _ (by decide)
/-- how many octets stand before the first 0 -/
def ocs (w : Int64) (i : Nat) : Nat → Nat
  | 0 => i
  | k + 1 => if oc w i = 0 then i else ocs w (i + 1) k
def octs (w : Int64) : Nat := ocs w 0 8
theorem ocs_le (w : Int64) : ∀ (k i : Nat), i ≤ ocs w i k ∧ ocs w i k ≤ i + k
  | 0, i => ⟨Nat.le_refl _, Nat.le_refl _⟩
  | k + 1, i => by
    unfold ocs
    by_cases h : oc w i = 0
    · rw [if_pos h]; omega
    · rw [if_neg h]
      have := ocs_le w k (i + 1)
      omega
theorem octs_le (w : Int64) : octs w ≤ 8 := by have := (ocs_le w 8 0).2; exact Nat.le_trans this (by decide)
theorem ocs_ne (w : Int64) : ∀ (k i j : Nat), i ≤ j → j < ocs w i k → oc w j ≠ 0
  | 0, i, j, h1, h2 => by unfold ocs at h2; omega
  | k + 1, i, j, h1, h2 => by
    unfold ocs at h2
    by_cases h : oc w i = 0
    · rw [if_pos h] at h2; omega
    · rw [if_neg h] at h2
      by_cases hij : j = i
      · rw [hij]; exact h
      · exact ocs_ne w k (i + 1) j (by omega) h2
/-- a byte out of a small int -/
theorem by_nI {n : Nat} (h : n < 128) : (nI n).toInt8.toInt32 = nI n := by
  have : ∀ n, n < 128 → (nI n).toInt8.toInt32 = nI n := by decide +kernel
  exact this n h
theorem by_and {n : Nat} (h : n < 256) : (nI n).toInt8.toInt32 &&& 255 = nI n := sc_k8 n h
end
section
/-! Math's four, String constants, statics -/
section AXS
variable {p : Program} {l : Launch} {e : Env} {R : Room} {s : State} {m : MethodId} {args : Array Value} {below : List Frame} {meth : Method} {c : Code} {cells slots : Nat} {Q : State → Prop}
variable {D : va_G} {cid : Nat → ClassId} {ad : Nat → Nat} {A : Nat → Prop} {nL : Nat} {Ts : List Cond} {own : String} {cc : ByteArray}
variable {pc : Nat} {lv : List (Nat × Value)} {st : List Value} {h : ax_H}
theorem ax_cat (ad : Nat → Nat) (st : List Value) : ((st.map (ax_v ad)).map fun v => v.category) = st.map fun v => v.category := by
  rw [List.map_map, show ((fun v : Value => v.category) ∘ ax_v ad) = fun v => v.category from funext (ax_vc ad)]
theorem ax_mmax (G : ax_G p s m args meth c Ts own cc nL D cid ad A) {i : Nat} {x y : Int32} (d : decode cc pc = .ok (.invokestatic i, 3)) (hw : Cond.methodLink own i y_Ma_max ∈ ax_big) (hR : 1 ≤ R.frames ∧ 30 ≤ R.locals) (hwt : (st.map fun v => v.category).sum ≤ 8) (hf : cells ≤ R.cells ∧ slots ≤ R.slots) (k : ax_V p l e R s m args below meth c D cid ad A nL cells slots Q (pc + 3) lv (.int (if x < y then y else x) :: st) h) : ax_V p l e R s m args below meth c D cid ad A nL cells slots Q pc lv (.int y :: .int x :: st) h := fun H locs ls hP hD hS hl => va_mmax G.1 G.2.1 (G.2.2.1.trans hl.1.symm) G.2.2.2.1 (ax_say G hw) (ax_say G kt_Ma_max) (ax_say G kk_Ma) (ax_say G kc_Ma_max) hR.1 (by rw [ax_cat]; omega) hf.1 hf.2 d (k H locs ls hP hD hS hl)
theorem ax_mmin (G : ax_G p s m args meth c Ts own cc nL D cid ad A) {i : Nat} {x y : Int32} (d : decode cc pc = .ok (.invokestatic i, 3)) (hw : Cond.methodLink own i y_Ma_min ∈ ax_big) (hR : 1 ≤ R.frames ∧ 30 ≤ R.locals) (hwt : (st.map fun v => v.category).sum ≤ 8) (hf : cells ≤ R.cells ∧ slots ≤ R.slots) (k : ax_V p l e R s m args below meth c D cid ad A nL cells slots Q (pc + 3) lv (.int (if y < x then y else x) :: st) h) : ax_V p l e R s m args below meth c D cid ad A nL cells slots Q pc lv (.int y :: .int x :: st) h := fun H locs ls hP hD hS hl => va_mmin G.1 G.2.1 (G.2.2.1.trans hl.1.symm) G.2.2.2.1 (ax_say G hw) (ax_say G kt_Ma_min) (ax_say G kk_Ma) (ax_say G kc_Ma_min) hR.1 (by rw [ax_cat]; omega) hf.1 hf.2 d (k H locs ls hP hD hS hl)
theorem ax_mmaxl (G : ax_G p s m args meth c Ts own cc nL D cid ad A) {i : Nat} {x y : Int64} (d : decode cc pc = .ok (.invokestatic i, 3)) (hw : Cond.methodLink own i y_Ma_max2 ∈ ax_big) (hR : 1 ≤ R.frames ∧ 30 ≤ R.locals) (hwt : (st.map fun v => v.category).sum ≤ 8) (hf : cells ≤ R.cells ∧ slots ≤ R.slots) (k : ax_V p l e R s m args below meth c D cid ad A nL cells slots Q (pc + 3) lv (.long (if y < x then x else y) :: st) h) : ax_V p l e R s m args below meth c D cid ad A nL cells slots Q pc lv (.long y :: .long x :: st) h := fun H locs ls hP hD hS hl => va_mmax_long G.1 G.2.1 (G.2.2.1.trans hl.1.symm) G.2.2.2.1 (ax_say G hw) (ax_say G kt_Ma_max2) (ax_say G kk_Ma) (ax_say G kc_Ma_max2) hR.1 (by rw [ax_cat]; omega) hf.1 hf.2 d (k H locs ls hP hD hS hl)
theorem ax_mminl (G : ax_G p s m args meth c Ts own cc nL D cid ad A) {i : Nat} {x y : Int64} (d : decode cc pc = .ok (.invokestatic i, 3)) (hw : Cond.methodLink own i y_Ma_min2 ∈ ax_big) (hR : 1 ≤ R.frames ∧ 30 ≤ R.locals) (hwt : (st.map fun v => v.category).sum ≤ 8) (hf : cells ≤ R.cells ∧ slots ≤ R.slots) (k : ax_V p l e R s m args below meth c D cid ad A nL cells slots Q (pc + 3) lv (.long (if y < x then y else x) :: st) h) : ax_V p l e R s m args below meth c D cid ad A nL cells slots Q pc lv (.long y :: .long x :: st) h := fun H locs ls hP hD hS hl => va_mmin_long G.1 G.2.1 (G.2.2.1.trans hl.1.symm) G.2.2.2.1 (ax_say G hw) (ax_say G kt_Ma_min2) (ax_say G kk_Ma) (ax_say G kc_Ma_min2) hR.1 (by rw [ax_cat]; omega) hf.1 hf.2 d (k H locs ls hP hD hS hl)
theorem ax_ldcS (G : ax_G p s m args meth c Ts own cc nL D cid ad A) {i t : Nat} {tx : String} (d : decode cc pc = .ok (.ldc i, 2)) (hq : (own, i, tx, t) ∈ ax_refs) (k : ax_V p l e R s m args below meth c D cid ad A nL cells slots Q (pc + 2) lv (.ref (100 + t) :: st) h) : ax_V p l e R s m args below meth c D cid ad A nL cells slots Q pc lv st h := fun H locs ls hP hD hS hl => va_ldcS G.1 G.2.1 G.2.2.2.1 (G.2.2.2.2.2.2.2.2.2.2.2.1 _ hq) d (k H locs ls hP hD hS hl)
theorem ax_sval (G : ax_G p s m args meth c Ts own cc nL D cid ad A) {i t : Nat} (ht : t < 8) (d : decode cc pc = .ok (.getfield i, 3)) (hw : Cond.fieldLink own i "java/lang/String" "value" "[B" ∈ ax_big) (k : ax_V p l e R s m args below meth c D cid ad A nL cells slots Q (pc + 3) lv (.ref (110 + t) :: st) h) : ax_V p l e R s m args below meth c D cid ad A nL cells slots Q pc lv (.ref (100 + t) :: st) h := fun H locs ls hP hD hS hl => vk_getf G.1 G.2.1 (G.2.2.2.2.2.2.2.2.2.2.1.1 t ht).2.2.1 hS G.2.2.2.1 (ax_say G hw) (fun _ h9 => h9) d (k H locs ls hP hD hS hl)
theorem ax_scod (G : ax_G p s m args meth c Ts own cc nL D cid ad A) {i t : Nat} (ht : t < 8) (d : decode cc pc = .ok (.getfield i, 3)) (hw : Cond.fieldLink own i "java/lang/String" "coder" "B" ∈ ax_big) (k : ax_V p l e R s m args below meth c D cid ad A nL cells slots Q (pc + 3) lv (.int 0 :: st) h) : ax_V p l e R s m args below meth c D cid ad A nL cells slots Q pc lv (.ref (100 + t) :: st) h := fun H locs ls hP hD hS hl => vk_getf G.1 G.2.1 (G.2.2.2.2.2.2.2.2.2.2.1.1 t ht).2.1 hS G.2.2.2.1 (ax_say G hw) (fun _ h9 => h9) d (k H locs ls hP hD hS hl)
theorem ax_salen (G : ax_G p s m args meth c Ts own cc nL D cid ad A) {t : Nat} (ht : t < 8) (d : decode cc pc = .ok (.arraylength, 1)) (k : ax_V p l e R s m args below meth c D cid ad A nL cells slots Q (pc + 1) lv (.int (nI (ax_len.getD t 0)) :: st) h) : ax_V p l e R s m args below meth c D cid ad A nL cells slots Q pc lv (.ref (110 + t) :: st) h := by
  intro H locs ls hP hD hS hl
  obtain ⟨cell, h1, h2, h3, h4, h5, h6, h7⟩ := (G.2.2.2.2.2.2.2.2.2.2.1.1 t ht).2.2.2
  exact W.alen (n := nI (ax_len.getD t 0)) G.1 G.2.1 (by rw [hS.2.1 _ (Array.getElem?_eq_some_iff.mp h1).1 h7]; exact h1) h2 h5 rfl rfl d (k H locs ls hP hD hS hl)
theorem ax_sald (G : ax_G p s m args meth c Ts own cc nL D cid ad A) {t : Nat} {i : Int32} (ht : t < 8) (d : decode cc pc = .ok (.baload, 1)) (hin : vp_in i (ax_len.getD t 0)) (k : ax_V p l e R s m args below meth c D cid ad A nL cells slots Q (pc + 1) lv (.int ((ax_byt.getD t []).getD i.toNatClampNeg 0) :: st) h) : ax_V p l e R s m args below meth c D cid ad A nL cells slots Q pc lv (.int i :: .ref (110 + t) :: st) h := fun H locs ls hP hD hS hl => va_tb G.1 G.2.1 (G.2.2.2.2.2.2.2.2.2.2.1.1 t ht).2.2.2 hS hin rfl d (k H locs ls hP hD hS hl)
theorem ax_compact (G : ax_G p s m args meth c Ts own cc nL D cid ad A) {i : Nat} (d : decode cc pc = .ok (.getstatic i, 3)) (hw : Cond.fieldLink own i "java/lang/String" "COMPACT_STRINGS" "Z" ∈ ax_big) (k : ax_V p l e R s m args below meth c D cid ad A nL cells slots Q (pc + 3) lv (.int 1 :: st) h) : ax_V p l e R s m args below meth c D cid ad A nL cells slots Q pc lv st h := fun H locs ls hP hD hS hl => va_gets G.1 G.2.1 G.2.2.2.2.2.2.2.2.2.2.2.2.1 hS G.2.2.2.1 (ax_say G hw) (fun _ h9 => h9) d (k H locs ls hP hD hS hl)
theorem ax_fives (G : ax_G p s m args meth c Ts own cc nL D cid ad A) {i : Nat} (d : decode cc pc = .ok (.getstatic i, 3)) (hw : Cond.fieldLink own i "FormatDesk$Decimal" "FIVES" "[J" ∈ ax_big) (k : ax_V p l e R s m args below meth c D cid ad A nL cells slots Q (pc + 3) lv (.ref 120 :: st) h) : ax_V p l e R s m args below meth c D cid ad A nL cells slots Q pc lv st h := fun H locs ls hP hD hS hl => va_gets G.1 G.2.1 G.2.2.2.2.2.2.2.2.2.2.2.2.2.1 hS G.2.2.2.1 (ax_say G hw) (fun _ h9 => h9) d (k H locs ls hP hD hS hl)
theorem ax_fiveat (G : ax_G p s m args meth c Ts own cc nL D cid ad A) {i : Int32} (d : decode cc pc = .ok (.laload, 1)) (hin : vp_in i 13) (k : ax_V p l e R s m args below meth c D cid ad A nL cells slots Q (pc + 1) lv (.long (ax_five i.toNatClampNeg) :: st) h) : ax_V p l e R s m args below meth c D cid ad A nL cells slots Q pc lv (.int i :: .ref 120 :: st) h := fun H locs ls hP hD hS hl => va_tl G.1 G.2.1 G.2.2.2.2.2.2.2.2.2.2.2.2.2.2.1 hS hin rfl d (k H locs ls hP hD hS hl)
theorem ax_sioobe (G : ax_G p s m args meth c Ts own cc nL D cid ad A) {i : Nat} (d : decode cc pc = .ok (.getstatic i, 3)) (hw : Cond.fieldLink own i "jdk/internal/util/Preconditions" "SIOOBE_FORMATTER" "Ljava/util/function/BiFunction;" ∈ ax_big) (k : ∀ v : Value, v = .null ∨ v = .ref 121 → ax_V p l e R s m args below meth c D cid ad A nL cells slots Q (pc + 3) lv (v :: st) h) : ax_V p l e R s m args below meth c D cid ad A nL cells slots Q pc lv st h := by
  intro H locs ls hP hD hS hl
  rcases G.2.2.2.2.2.2.2.2.2.2.2.2.2.2.2 with hz | hz
  · exact va_gets G.1 G.2.1 hz hS G.2.2.2.1 (ax_say G hw) (fun _ h9 => h9) d (k .null (Or.inl rfl) H locs ls hP hD hS hl)
  · exact va_gets G.1 G.2.1 hz hS G.2.2.2.1 (ax_say G hw) (fun _ h9 => h9) d (k (.ref 121) (Or.inr rfl) H locs ls hP hD hS hl)
set_option maxHeartbeats 1000000 in
/-- a call of a method of a String constant -/
theorem ax_callK (G : ax_G p s m args meth c Ts own cc nL D cid ad A) {y : MethodName} {bytes : ByteArray} {maxL : Nat} {ret : Option FieldType} {kr n i t : Nat} {as' : List Value} {hc : ax_H} {Qa : Option Value → ax_H → Prop} {st0 : List Value}
    (ht : t < 8) (ct : ax_CT l y bytes maxL ret kr (.ref (100 + t) :: as') hc Qa) (d : decode cc pc = .ok (.invokevirtual i, 3)) (hst : st0 = as'.reverse ++ .ref (100 + t) :: st) (hs : ax_sub hc h) (hn : va_nd (hc.map Prod.fst) = true)
    (hcode : Cond.code y bytes maxL ret ∈ ax_big) (hw : Cond.methodLink own i y ∈ ax_big ∧ Cond.instanceMethod y ∈ ax_big ∧ Cond.selects "java/lang/String" y y ∈ ax_big ∧ Cond.initialized "java/lang/String" ∈ ax_big)
    (hd : y.cls = "java/lang/String" ∧ (parseMethodDescriptor y.desc).map (fun d => d.parameters.length) = some n) (hlen : as'.length = n)
    (hR : kr + 1 ≤ R.frames ∧ 8 + (maxL + 11) + 40 * kr ≤ R.locals) (hwt : (st.map fun v => v.category).sum ≤ 8) (hf : cells ≤ R.cells ∧ slots ≤ R.slots)
    (kk : ∀ (r : Option Value) (hc' : ax_H), Qa r hc' → hc'.map Prod.fst = hc.map Prod.fst → ax_V p l e R s m args below meth c D cid ad A nL cells slots Q (pc + 3) lv (r.toList ++ st) (ax_m h hc')) : ax_V p l e R s m args below meth c D cid ad A nL cells slots Q pc lv st0 h := by
  intro H locs ls hP hD hS hl
  subst hst
  have hG := ax_goodIn G hcode
  obtain ⟨w1, w2, w3, w4⟩ := hw
  refine ax_goes (cid := cid) (ad := ad) (hc := hc) (Qa := Qa) (a := (.ref (ad (100 + t)) :: as'.map (ax_v ad)).toArray) G hP hD hS hl hs ?_ kk
  refine va_runV (n := n) (As := as'.map (ax_v ad)) (b := ad (100 + t)) (C := "java/lang/String") (Ts := Ts) (own := own) (index := i) ⟨G.1, G.2.1, G.2.2.1, G.2.2.2.1, G.2.2.2.2.1⟩ (ct D cid ad H.size) ⟨callB_of n G.2.2.2.2.1 hG rfl rfl rfl (by rw [hd.1]; exact ax_say G w4) (ax_say G w1) ⟨by rw [hd.1]; decide, by rw [hd.1]; decide, hd.2⟩ hR, ax_say G w2, ax_say G w3⟩ ⟨ax_blind, vk_recv (adK := fun i => ad (100 + i)) (i := t) G.2.2.2.2.2.2.2.2.2.2.1 ht hS, fun U hU hW => ⟨rfl, ax_pre G hP hD hS hs hn hU hW⟩⟩ rfl (by rw [List.length_map]; exact hlen) hl.1 (by simp [F0, List.map_reverse, ax_v]) (lv_room (by rw [ax_cat]; exact hwt)) d hf
end AXS
end
section
/-! java.lang.String and its helpers, on the String constants -/
theorem st_len : ∀ t, t < 8 → ax_len.getD t 0 = (ax_byt.getD t []).length ∧ ax_len.getD t 0 ≤ 16 := by decide +kernel
theorem st_and : ∀ t, t < 8 → ∀ k, k < 16 → (ax_byt.getD t []).getD k 0 &&& 255 = (ax_byt.getD t []).getD k 0 := by decide +kernel
theorem st_chr : ∀ t, t < 8 → ∀ k, k < 16 → ((((ax_byt.getD t []).getD k 0).toUInt32 % 65536).toInt32 = (ax_byt.getD t []).getD k 0 ∧ narrow .char (.int ((ax_byt.getD t []).getD k 0)) = .int ((ax_byt.getD t []).getD k 0)) := by decide +kernel
set_option maxRecDepth 20000 in
set_option maxHeartbeats 1000000 in
theorem ct_Pr_checkIndex (l : Launch) (a b : Nat) (v : Value) (hv : v = .null ∨ v = .ref 121) (hab : a < b) (hb : b < 2 ^ 31) : ax_CT l y_Pr_checkIndex c_Pr_checkIndex 3 (some .int) 0 [.int (nI a), .int (nI b), v] [] (fun r h => r = some (.int (nI a)) ∧ h = []) := by
  refine ax_ofV (by decide) (by rcases hv with rfl | rfl <;> exact Nat.le_of_ble_eq_true rfl) ?_
  intro p e s m args below meth c D cid ad A Qc G hr E
  have e1 : lv_args 0 [.int (nI a), .int (nI b), v] = [(0, .int (nI a)), (1, .int (nI b)), (2, v)] := by rcases hv with rfl | rfl <;> rfl
  rw [e1]
  refine ax_iload_n G d_Pr_checkIndex_0 rfl rfl ?_
  refine ax_if_lt (tgt := 9) G d_Pr_checkIndex_1 (by decide) (fun c_1 => ?_) (fun c_1 => ?_)
  · exact absurd c_1 (nI_pos (by omega))
  · refine ax_iload_n G d_Pr_checkIndex_4 rfl rfl ?_
    refine ax_iload_n G d_Pr_checkIndex_5 rfl rfl ?_
    refine ax_icmp_lt (tgt := 16) G d_Pr_checkIndex_6 (by decide) (fun c_6 => ?_) (fun c_6 => ?_)
    · refine ax_iload_n G d_Pr_checkIndex_16 rfl rfl ?_
      exact ax_iret G hr E d_Pr_checkIndex_17 rfl ⟨rfl, rfl⟩
    · exact absurd (nI_lt hab hb) c_6
set_option maxRecDepth 20000 in
set_option maxHeartbeats 1000000 in
theorem ct_St_checkIndex (l : Launch) (a b : Nat) (hab : a < b) (hb : b < 2 ^ 31) : ax_CT l y_St_checkIndex c_St_checkIndex 2 none 1 [.int (nI a), .int (nI b)] [] (fun r h => r = none ∧ h = []) := by
  refine ax_ofV (by decide) (Nat.le_of_ble_eq_true rfl) ?_
  intro p e s m args below meth c D cid ad A Qc G hr E
  refine ax_iload_n G d_St_checkIndex_0 rfl rfl ?_
  refine ax_iload_n G d_St_checkIndex_1 rfl rfl ?_
  refine ax_sioobe G d_St_checkIndex_2 k_St_1053 (fun v hv => ?_)
  refine ax_callS (n := 3) G (ct_Pr_checkIndex l a b v hv hab hb) d_St_checkIndex_5 rfl trivial rfl kc_Pr_checkIndex ⟨k_St_1059, kt_Pr_checkIndex, kk_Pr⟩ (by decide +kernel) rfl ⟨by decide, by decide⟩ (Nat.le_of_ble_eq_true rfl) ⟨by decide, by decide⟩ (fun r hc_ hq hk_ => ?_)
  obtain ⟨rfl, rfl⟩ := hq
  refine ax_pop G d_St_checkIndex_8 rfl ?_
  exact ax_vret G hr E d_St_checkIndex_9 rfl ⟨rfl, rfl⟩
set_option maxRecDepth 20000 in
set_option maxHeartbeats 1000000 in
theorem ct_Sl_charAt (l : Launch) (t k : Nat) (ht : t < 8) (hk : k < ax_len.getD t 0) : ax_CT l y_Sl_charAt c_Sl_charAt 2 (some .char) 2 [.ref (110 + t), .int (nI k)] [] (fun r h => r = some (.int ((ax_byt.getD t []).getD k 0)) ∧ h = []) := by
  refine ax_ofV (by decide) (Nat.le_of_ble_eq_true rfl) ?_
  intro p e s m args below meth c D cid ad A Qc G hr E
  have hL := (st_len t ht).2
  refine ax_iload_n G d_Sl_charAt_0 rfl rfl ?_
  refine ax_aload_n G d_Sl_charAt_1 rfl rfl ?_
  refine ax_salen G ht d_Sl_charAt_2 ?_
  refine ax_callS (n := 2) G (ct_St_checkIndex l k (ax_len.getD t 0) hk (by omega)) d_Sl_charAt_3 rfl trivial rfl kc_St_checkIndex ⟨k_Sl_9, kt_St_checkIndex, kk_St⟩ (by decide +kernel) rfl ⟨by decide, by decide⟩ (Nat.le_of_ble_eq_true rfl) ⟨by decide, by decide⟩ (fun r hc_ hq hk_ => ?_)
  obtain ⟨rfl, rfl⟩ := hq
  refine ax_aload_n G d_Sl_charAt_6 rfl rfl ?_
  refine ax_iload_n G d_Sl_charAt_7 rfl rfl ?_
  refine ax_sald G ht d_Sl_charAt_8 (vp_in_nI hk (by omega)) ?_
  refine ax_sipush (v := 255) G d_Sl_charAt_9 (by decide) ?_
  refine ax_iand G d_Sl_charAt_12 ?_
  rw [nI_clamp (by omega), st_and t ht k (by omega)]
  refine ax_i2c G d_Sl_charAt_13 ?_
  rw [(st_chr t ht k (by omega)).1]
  exact ax_zret G hr E (st_chr t ht k (by omega)).2 d_Sl_charAt_14 rfl ⟨rfl, rfl⟩
set_option maxRecDepth 20000 in
set_option maxHeartbeats 1000000 in
theorem ct_St_isLatin1 (l : Launch) (t : Nat) (ht : t < 8) : ax_CT l y_St_isLatin1 c_St_isLatin1 1 (some .boolean) 0 [.ref (100 + t)] [] (fun r h => r = some (.int 1) ∧ h = []) := by
  refine ax_ofV (by decide) (Nat.le_of_ble_eq_true rfl) ?_
  intro p e s m args below meth c D cid ad A Qc G hr E
  refine ax_compact G d_St_isLatin1_0 k_St_38 ?_
  refine ax_if_eq (tgt := 17) G d_St_isLatin1_3 (by decide) (fun c_3 => ?_) (fun c_3 => ?_)
  · exact absurd c_3 (by decide)
  · refine ax_aload_n G d_St_isLatin1_6 rfl rfl ?_
    refine ax_scod G ht d_St_isLatin1_7 k_St_15 ?_
    refine ax_if_ne (tgt := 17) G d_St_isLatin1_10 (by decide) (fun c_10 => ?_) (fun c_10 => ?_)
    · exact absurd rfl c_10
    · refine ax_iconst (v := 1) G d_St_isLatin1_13 (by decide) ?_
      refine ax_goto (tgt := 18) G d_St_isLatin1_14 (by decide) ?_
      exact ax_zret G hr E rfl d_St_isLatin1_18 rfl ⟨rfl, rfl⟩
set_option maxRecDepth 20000 in
set_option maxHeartbeats 1000000 in
theorem ct_St_coder (l : Launch) (t : Nat) (ht : t < 8) : ax_CT l y_St_coder c_St_coder 1 (some .byte) 0 [.ref (100 + t)] [] (fun r h => r = some (.int 0) ∧ h = []) := by
  refine ax_ofV (by decide) (Nat.le_of_ble_eq_true rfl) ?_
  intro p e s m args below meth c D cid ad A Qc G hr E
  refine ax_compact G d_St_coder_0 k_St_38 ?_
  refine ax_if_eq (tgt := 13) G d_St_coder_3 (by decide) (fun c_3 => ?_) (fun c_3 => ?_)
  · exact absurd c_3 (by decide)
  · refine ax_aload_n G d_St_coder_6 rfl rfl ?_
    refine ax_scod G ht d_St_coder_7 k_St_15 ?_
    refine ax_goto (tgt := 14) G d_St_coder_10 (by decide) ?_
    exact ax_zret G hr E rfl d_St_coder_14 rfl ⟨rfl, rfl⟩
set_option maxRecDepth 20000 in
set_option maxHeartbeats 1000000 in
theorem ct_St_length (l : Launch) (t : Nat) (ht : t < 8) : ax_CT l y_St_length c_St_length 1 (some .int) 1 [.ref (100 + t)] [] (fun r h => r = some (.int (nI (ax_len.getD t 0))) ∧ h = []) := by
  refine ax_ofV (by decide) (Nat.le_of_ble_eq_true rfl) ?_
  intro p e s m args below meth c D cid ad A Qc G hr E
  refine ax_aload_n G d_St_length_0 rfl rfl ?_
  refine ax_sval G ht d_St_length_1 k_St_9 ?_
  refine ax_salen G ht d_St_length_4 ?_
  refine ax_aload_n G d_St_length_5 rfl rfl ?_
  refine ax_callK (n := 0) G ht (ct_St_coder l t ht) d_St_length_6 rfl trivial rfl kc_St_coder ⟨k_St_335, ki_St_coder, ks_St_coder, kk_St⟩ (by decide +kernel) rfl ⟨by decide, by decide⟩ (Nat.le_of_ble_eq_true rfl) ⟨by decide, by decide⟩ (fun r hc_ hq hk_ => ?_)
  obtain ⟨rfl, rfl⟩ := hq
  refine ax_ishr G d_St_length_9 ?_
  rw [sb_shr0]
  exact ax_iret G hr E d_St_length_10 rfl ⟨rfl, rfl⟩
set_option maxRecDepth 20000 in
set_option maxHeartbeats 1000000 in
theorem ct_St_charAt (l : Launch) (t k : Nat) (ht : t < 8) (hk : k < ax_len.getD t 0) : ax_CT l y_St_charAt c_St_charAt 2 (some .char) 3 [.ref (100 + t), .int (nI k)] [] (fun r h => r = some (.int ((ax_byt.getD t []).getD k 0)) ∧ h = []) := by
  refine ax_ofV (by decide) (Nat.le_of_ble_eq_true rfl) ?_
  intro p e s m args below meth c D cid ad A Qc G hr E
  have hL := (st_len t ht).2
  refine ax_aload_n G d_St_charAt_0 rfl rfl ?_
  refine ax_callK (n := 0) G ht (ct_St_isLatin1 l t ht) d_St_charAt_1 rfl trivial rfl kc_St_isLatin1 ⟨k_St_492, ki_St_isLatin1, ks_St_isLatin1, kk_St⟩ (by decide +kernel) rfl ⟨by decide, by decide⟩ (Nat.le_of_ble_eq_true rfl) ⟨by decide, by decide⟩ (fun r hc_ hq hk_ => ?_)
  obtain ⟨rfl, rfl⟩ := hq
  refine ax_if_eq (tgt := 16) G d_St_charAt_4 (by decide) (fun c_4 => ?_) (fun c_4 => ?_)
  · exact absurd c_4 (by decide)
  · refine ax_aload_n G d_St_charAt_7 rfl rfl ?_
    refine ax_sval G ht d_St_charAt_8 k_St_9 ?_
    refine ax_iload_n G d_St_charAt_11 rfl rfl ?_
    refine ax_callS (n := 2) G (ct_Sl_charAt l t k ht hk) d_St_charAt_12 rfl trivial rfl kc_Sl_charAt ⟨k_St_495, kt_Sl_charAt, kk_Sl⟩ (by decide +kernel) rfl ⟨by decide, by decide⟩ (Nat.le_of_ble_eq_true rfl) ⟨by decide, by decide⟩ (fun r hc_ hq hk_ => ?_)
    obtain ⟨rfl, rfl⟩ := hq
    exact ax_zret G hr E (st_chr t ht k (by omega)).2 d_St_charAt_15 rfl ⟨rfl, rfl⟩
set_option maxRecDepth 20000 in
set_option maxHeartbeats 1000000 in
theorem ct_Sl_canEncode (l : Launch) (n : Nat) (hn : n < 256) : ax_CT l y_Sl_canEncode c_Sl_canEncode 1 (some .boolean) 0 [.int (nI n)] [] (fun r h => r = some (.int 1) ∧ h = []) := by
  refine ax_ofV (by decide) (Nat.le_of_ble_eq_true rfl) ?_
  intro p e s m args below meth c D cid ad A Qc G hr E
  refine ax_iload_n G d_Sl_canEncode_0 rfl rfl ?_
  refine ax_if_lt (tgt := 15) G d_Sl_canEncode_1 (by decide) (fun c_1 => ?_) (fun c_1 => ?_)
  · exact absurd c_1 (nI_pos (by omega))
  · refine ax_iload_n G d_Sl_canEncode_4 rfl rfl ?_
    refine ax_sipush (v := 255) G d_Sl_canEncode_5 (by decide) ?_
    refine ax_icmp_gt (tgt := 15) G d_Sl_canEncode_8 (by decide) (fun c_8 => ?_) (fun c_8 => ?_)
    · exact absurd c_8 (nI_nlt (a := 255) (b := n) (by omega) (by decide))
    · refine ax_iconst (v := 1) G d_Sl_canEncode_11 (by decide) ?_
      refine ax_goto (tgt := 16) G d_Sl_canEncode_12 (by decide) ?_
      exact ax_zret G hr E rfl d_Sl_canEncode_16 rfl ⟨rfl, rfl⟩
/-- the place of c from i on, -1 if it is not there -/
def ixf (bs : List Int32) (c : Int32) (i : Nat) : Nat → Int32
  | 0 => -1
  | k + 1 => if bs.getD i 0 = c then nI i else ixf bs c (i + 1) k
theorem ixf_s (bs : List Int32) (c : Int32) (i k : Nat) : ixf bs c i (k + 1) = if bs.getD i 0 = c then nI i else ixf bs c (i + 1) k := rfl
set_option maxRecDepth 20000 in
set_option maxHeartbeats 1000000 in
theorem ct_Sl_indexOfChar (l : Launch) (t : Nat) (x : Int32) (ht : t < 8) : ax_CT l y_Sl_indexOfChar c_Sl_indexOfChar 6 (some .int) 0 [.ref (110 + t), .int x, .int 0, .int (nI (ax_len.getD t 0))] [] (fun r h => r = some (.int (ixf (ax_byt.getD t []) x.toInt8.toInt32 0 (ax_len.getD t 0))) ∧ h = []) := by
  refine ax_ofV (by decide) (Nat.le_of_ble_eq_true rfl) ?_
  intro p e s m args below meth c D cid ad A Qc G hr E
  have hL := (st_len t ht).2
  generalize hN : ax_len.getD t 0 = N at *
  have loop : ∀ (k i : Nat), k + i = N → ixf (ax_byt.getD t []) x.toInt8.toInt32 i k = ixf (ax_byt.getD t []) x.toInt8.toInt32 0 N → ax_V p l e (ax_rm 0) s m args below meth c D cid ad A 6 0 0 (MQ below Qc args s 0 0 A) 7 [(0, .ref (110 + t)), (1, .int x), (2, .int 0), (3, .int (nI N)), (4, .int x.toInt8.toInt32), (5, .int (nI i))] [] [] := by
    intro k
    induction k with
    | zero =>
      intro i hi he
      refine ax_iload G d_Sl_indexOfChar_7 rfl ?_
      refine ax_iload_n G d_Sl_indexOfChar_9 rfl rfl ?_
      refine ax_icmp_ge (tgt := 31) G d_Sl_indexOfChar_10 (by decide) (fun c_10 => ?_) (fun c_10 => ?_)
      · refine ax_iconst (v := (-1)) G d_Sl_indexOfChar_31 (by decide) ?_
        exact ax_iret G hr E d_Sl_indexOfChar_32 rfl ⟨by rw [← he]; rfl, rfl⟩
      · exact absurd (nI_le (by omega) (by omega)) c_10
    | succ k ih =>
      intro i hi he
      refine ax_iload G d_Sl_indexOfChar_7 rfl ?_
      refine ax_iload_n G d_Sl_indexOfChar_9 rfl rfl ?_
      refine ax_icmp_ge (tgt := 31) G d_Sl_indexOfChar_10 (by decide) (fun c_10 => ?_) (fun c_10 => ?_)
      · exact absurd c_10 (nI_ge (by omega) (by omega))
      · refine ax_aload_n G d_Sl_indexOfChar_13 rfl rfl ?_
        refine ax_iload G d_Sl_indexOfChar_14 rfl ?_
        refine ax_sald G ht d_Sl_indexOfChar_16 (vp_in_nI (by omega) (by omega)) ?_
        rw [nI_clamp (by omega)]
        rw [ixf_s] at he
        refine ax_iload G d_Sl_indexOfChar_17 rfl ?_
        refine ax_icmp_ne (tgt := 25) G d_Sl_indexOfChar_19 (by decide) (fun c_19 => ?_) (fun c_19 => ?_)
        · rw [if_neg c_19] at he
          refine ax_iincZ (z := 1) G d_Sl_indexOfChar_25 rfl (by decide) (by decide) ?_
          refine ax_goto (tgt := 7) G d_Sl_indexOfChar_28 (by decide) ?_
          rw [nI_1]
          exact ih (i + 1) (by omega) he
        · rw [if_pos c_19] at he
          refine ax_iload G d_Sl_indexOfChar_22 rfl ?_
          exact ax_iret G hr E d_Sl_indexOfChar_24 rfl ⟨by rw [he], rfl⟩
  refine ax_iload_n G d_Sl_indexOfChar_0 rfl rfl ?_
  refine ax_i2b G d_Sl_indexOfChar_1 ?_
  refine ax_istore G d_Sl_indexOfChar_2 (by decide) ?_
  refine ax_iload_n G d_Sl_indexOfChar_4 rfl rfl ?_
  refine ax_istore G d_Sl_indexOfChar_5 (by decide) ?_
  exact loop N 0 rfl rfl
set_option maxRecDepth 20000 in
set_option maxHeartbeats 1000000 in
theorem ct_Sl_indexOf (l : Launch) (t n : Nat) (ht : t < 8) (hn : n < 256) : ax_CT l y_Sl_indexOf c_Sl_indexOf 4 (some .int) 1 [.ref (110 + t), .int (nI n), .int 0, .int (nI (ax_len.getD t 0))] [] (fun r h => r = some (.int (ixf (ax_byt.getD t []) (nI n).toInt8.toInt32 0 (ax_len.getD t 0))) ∧ h = []) := by
  refine ax_ofV (by decide) (Nat.le_of_ble_eq_true rfl) ?_
  intro p e s m args below meth c D cid ad A Qc G hr E
  have hL := (st_len t ht).2
  refine ax_iload_n G d_Sl_indexOf_0 rfl rfl ?_
  refine ax_callS (n := 1) G (ct_Sl_canEncode l n hn) d_Sl_indexOf_1 rfl trivial rfl kc_Sl_canEncode ⟨k_Sl_88, kt_Sl_canEncode, kk_Sl⟩ (by decide +kernel) rfl ⟨by decide, by decide⟩ (Nat.le_of_ble_eq_true rfl) ⟨by decide, by decide⟩ (fun r hc_ hq hk_ => ?_)
  obtain ⟨rfl, rfl⟩ := hq
  refine ax_if_ne (tgt := 9) G d_Sl_indexOf_4 (by decide) (fun c_4 => ?_) (fun c_4 => ?_)
  · refine ax_iload_n G d_Sl_indexOf_9 rfl rfl ?_
    refine ax_iconst (v := 0) G d_Sl_indexOf_10 (by decide) ?_
    refine ax_mmax G d_Sl_indexOf_11 k_Sl_92 ⟨by decide, by decide⟩ (Nat.le_of_ble_eq_true rfl) ⟨by decide, by decide⟩ ?_
    rw [show (if (0 : Int32) < 0 then (0 : Int32) else 0) = 0 by rfl]
    refine ax_istore_n G d_Sl_indexOf_14 rfl (by decide) ?_
    refine ax_iload_n G d_Sl_indexOf_15 rfl rfl ?_
    refine ax_aload_n G d_Sl_indexOf_16 rfl rfl ?_
    refine ax_salen G ht d_Sl_indexOf_17 ?_
    refine ax_mmin G d_Sl_indexOf_18 k_Sl_38 ⟨by decide, by decide⟩ (Nat.le_of_ble_eq_true rfl) ⟨by decide, by decide⟩ ?_
    rw [if_neg (nI_nlt (Nat.le_refl _) (by omega))]
    refine ax_istore_n G d_Sl_indexOf_21 rfl (by decide) ?_
    refine ax_iload_n G d_Sl_indexOf_22 rfl rfl ?_
    refine ax_iload_n G d_Sl_indexOf_23 rfl rfl ?_
    refine ax_icmp_lt (tgt := 29) G d_Sl_indexOf_24 (by decide) (fun c_24 => ?_) (fun c_24 => ?_)
    · refine ax_aload_n G d_Sl_indexOf_29 rfl rfl ?_
      refine ax_iload_n G d_Sl_indexOf_30 rfl rfl ?_
      refine ax_iload_n G d_Sl_indexOf_31 rfl rfl ?_
      refine ax_iload_n G d_Sl_indexOf_32 rfl rfl ?_
      refine ax_callS (n := 4) G (ct_Sl_indexOfChar l t (nI n) ht) d_Sl_indexOf_33 rfl trivial rfl kc_Sl_indexOfChar ⟨k_Sl_95, kt_Sl_indexOfChar, kk_Sl⟩ (by decide +kernel) rfl ⟨by decide, by decide⟩ (Nat.le_of_ble_eq_true rfl) ⟨by decide, by decide⟩ (fun r hc_ hq hk_ => ?_)
      obtain ⟨rfl, rfl⟩ := hq
      exact ax_iret G hr E d_Sl_indexOf_36 rfl ⟨rfl, rfl⟩
    · have h0 : ax_len.getD t 0 = 0 := by
        rcases Nat.eq_zero_or_pos (ax_len.getD t 0) with q | q
        · exact q
        · exact absurd (by rw [← nI_0]; exact nI_lt q (by omega)) c_24
      refine ax_iconst (v := (-1)) G d_Sl_indexOf_27 (by decide) ?_
      exact ax_iret G hr E d_Sl_indexOf_28 rfl ⟨by rw [h0]; rfl, rfl⟩
  · exact absurd c_4 (by decide)
set_option maxRecDepth 20000 in
set_option maxHeartbeats 1000000 in
theorem ct_St_indexOf2 (l : Launch) (t n : Nat) (ht : t < 8) (hn : n < 256) : ax_CT l y_St_indexOf2 c_St_indexOf2 3 (some .int) 2 [.ref (100 + t), .int (nI n), .int 0] [] (fun r h => r = some (.int (ixf (ax_byt.getD t []) (nI n).toInt8.toInt32 0 (ax_len.getD t 0))) ∧ h = []) := by
  refine ax_ofV (by decide) (Nat.le_of_ble_eq_true rfl) ?_
  intro p e s m args below meth c D cid ad A Qc G hr E
  refine ax_aload_n G d_St_indexOf2_0 rfl rfl ?_
  refine ax_callK (n := 0) G ht (ct_St_isLatin1 l t ht) d_St_indexOf2_1 rfl trivial rfl kc_St_isLatin1 ⟨k_St_492, ki_St_isLatin1, ks_St_isLatin1, kk_St⟩ (by decide +kernel) rfl ⟨by decide, by decide⟩ (Nat.le_of_ble_eq_true rfl) ⟨by decide, by decide⟩ (fun r hc_ hq hk_ => ?_)
  obtain ⟨rfl, rfl⟩ := hq
  refine ax_if_eq (tgt := 23) G d_St_indexOf2_4 (by decide) (fun c_4 => ?_) (fun c_4 => ?_)
  · exact absurd c_4 (by decide)
  · refine ax_aload_n G d_St_indexOf2_7 rfl rfl ?_
    refine ax_sval G ht d_St_indexOf2_8 k_St_9 ?_
    refine ax_iload_n G d_St_indexOf2_11 rfl rfl ?_
    refine ax_iload_n G d_St_indexOf2_12 rfl rfl ?_
    refine ax_aload_n G d_St_indexOf2_13 rfl rfl ?_
    refine ax_callK (n := 0) G ht (ct_St_length l t ht) d_St_indexOf2_14 rfl trivial rfl kc_St_length ⟨k_St_505, ki_St_length, ks_St_length, kk_St⟩ (by decide +kernel) rfl ⟨by decide, by decide⟩ (Nat.le_of_ble_eq_true rfl) ⟨by decide, by decide⟩ (fun r hc_ hq hk_ => ?_)
    obtain ⟨rfl, rfl⟩ := hq
    refine ax_callS (n := 4) G (ct_Sl_indexOf l t n ht hn) d_St_indexOf2_17 rfl trivial rfl kc_Sl_indexOf ⟨k_St_637, kt_Sl_indexOf, kk_Sl⟩ (by decide +kernel) rfl ⟨by decide, by decide⟩ (Nat.le_of_ble_eq_true rfl) ⟨by decide, by decide⟩ (fun r hc_ hq hk_ => ?_)
    obtain ⟨rfl, rfl⟩ := hq
    refine ax_goto (tgt := 36) G d_St_indexOf2_20 (by decide) ?_
    exact ax_iret G hr E d_St_indexOf2_36 rfl ⟨rfl, rfl⟩
set_option maxRecDepth 20000 in
set_option maxHeartbeats 1000000 in
theorem ct_St_indexOf (l : Launch) (t n : Nat) (ht : t < 8) (hn : n < 256) : ax_CT l y_St_indexOf c_St_indexOf 2 (some .int) 3 [.ref (100 + t), .int (nI n)] [] (fun r h => r = some (.int (ixf (ax_byt.getD t []) (nI n).toInt8.toInt32 0 (ax_len.getD t 0))) ∧ h = []) := by
  refine ax_ofV (by decide) (Nat.le_of_ble_eq_true rfl) ?_
  intro p e s m args below meth c D cid ad A Qc G hr E
  refine ax_aload_n G d_St_indexOf_0 rfl rfl ?_
  refine ax_iload_n G d_St_indexOf_1 rfl rfl ?_
  refine ax_iconst (v := 0) G d_St_indexOf_2 (by decide) ?_
  refine ax_callK (n := 2) G ht (ct_St_indexOf2 l t n ht hn) d_St_indexOf_3 rfl trivial rfl kc_St_indexOf2 ⟨k_St_633, ki_St_indexOf2, ks_St_indexOf2, kk_St⟩ (by decide +kernel) rfl ⟨by decide, by decide⟩ (Nat.le_of_ble_eq_true rfl) ⟨by decide, by decide⟩ (fun r hc_ hq hk_ => ?_)
  obtain ⟨rfl, rfl⟩ := hq
  exact ax_iret G hr E d_St_indexOf_6 rfl ⟨rfl, rfl⟩
end
section
/-! pure rows: letters, digits of a word, booleans -/
def zb (b : Bool) : Int32 := if b then 1 else 0
theorem zb_nar (b : Bool) : narrow .boolean (.int (zb b)) = .int (zb b) := by cases b <;> rfl
theorem zb_fit (b : Bool) : fits .boolean (.int (zb b)) = true := by cases b <;> decide
theorem zb_ne (b : Bool) : (zb b = 0) ↔ b = false := by cases b <;> decide
def ul (w : Int64) : Nat := w.toBitVec.toNat
def uw (n : Nat) : Int64 := Int64.ofNat n
theorem ul_lt (w : Int64) : ul w < 2 ^ 64 := w.toBitVec.isLt
theorem ul_uw {n : Nat} (h : n < 2 ^ 64) : ul (uw n) = n := by
  show (Int64.ofNat n).toBitVec.toNat = n
  rw [Int64.toBitVec_ofNat', BitVec.toNat_ofNat]
  exact Nat.mod_eq_of_lt h
theorem ul_inj {a b : Int64} (h : ul a = ul b) : a = b := Int64.toBitVec_inj.mp (BitVec.eq_of_toNat_eq h)
theorem uw_ul (w : Int64) : uw (ul w) = w := ul_inj (ul_uw (ul_lt w))
theorem ul_0 {w : Int64} : w = 0 ↔ ul w = 0 := ⟨fun h => by rw [h]; rfl, fun h => ul_inj h⟩
theorem uw_ush (n k : Nat) (hn : n < 2 ^ 64) (z : UInt64) (hz : z.toNat % 64 = k) : ((uw n).toUInt64 >>> z).toInt64 = uw (n / 2 ^ k) := by
  apply ul_inj
  have h1 := ush_nat (uw n) z
  rw [hz, show (uw n).toBitVec.toNat = n from ul_uw hn] at h1
  rw [ul_uw (Nat.lt_of_le_of_lt (Nat.div_le_self _ _) hn)]
  exact h1
theorem uw_lN (n : Nat) : uw n = lN n := rfl
/-- a hexadecimal digit's letter -/
def hx (k : Nat) : Nat := if k < 10 then 48 + k else 87 + k
theorem hx_lt {k : Nat} (h : k < 16) : hx k < 128 := by unfold hx; split <;> omega
theorem hx_byt : ∀ k, k < 16 → (ax_byt.getD 1 []).getD k 0 = nI (hx k) := by decide +kernel
/-- how many digits -/
def dgf (b : Nat) : Nat → Nat → Nat
  | 0, _ => 0
  | k + 1, U => if U = 0 then 0 else 1 + dgf b k (U / b)
theorem dgf_s (b k U : Nat) : dgf b (k + 1) U = if U = 0 then 0 else 1 + dgf b k (U / b) := rfl
/-- the lowest n digits' letters -/
def wl (U b n : Nat) : List Nat := (List.range n).map (fun j => hx (U / b ^ (n - 1 - j) % b))
theorem wl_len (U b n : Nat) : (wl U b n).length = n := by unfold wl; rw [List.length_map, List.length_range]
theorem wl_at (U b n j : Nat) (h : j < n) : (wl U b n).getD j 0 = hx (U / b ^ (n - 1 - j) % b) := by
  unfold wl
  rw [List.getD_eq_getElem?_getD, List.getElem?_map, List.getElem?_range h]
  rfl
def sgn (neg plus blank : Bool) : List Nat := if neg then [45] else if plus then [43] else if blank then [32] else []
def up (c : Nat) : Nat := if 97 ≤ c ∧ c ≤ 122 then c - 32 else c
/-- the words' letters -/
def st_wd (t : Nat) : List Nat := (["diuoxXceEfFgGaA%", "0123456789abcdef", "0x", "inf", "nan", "diouxXceEfFgGaA%", "INF", "NAN"].getD t "").toList.map Char.toNat
theorem st_wd_at : ∀ t, t < 8 → (st_wd t).length = ax_len.getD t 0 ∧ ∀ k, k < 16 → (ax_byt.getD t []).getD k 0 = nI ((st_wd t).getD k 0) ∧ (st_wd t).getD k 0 < 128 := by decide +kernel
/-- a row holds letters -/
def pi_is (f : Nat → Int32) (bs : List Nat) : Prop := ∀ i, i < bs.length → f i = nI (bs.getD i 0) ∧ bs.getD i 0 < 128
theorem pi_nil (f : Nat → Int32) : pi_is f [] := fun i h => absurd h (Nat.not_lt_zero i)
theorem gd_app {bs cs : List Nat} {i : Nat} (h : i < bs.length) : (bs ++ cs).getD i 0 = bs.getD i 0 := by
  rw [List.getD_eq_getElem?_getD, List.getD_eq_getElem?_getD, List.getElem?_append_left h]
theorem gd_app2 {bs cs : List Nat} {i : Nat} : (bs ++ cs).getD (bs.length + i) 0 = cs.getD i 0 := by
  rw [List.getD_eq_getElem?_getD, List.getD_eq_getElem?_getD, List.getElem?_append_right (by omega), Nat.add_sub_cancel_left]
theorem pi_app {f : Nat → Int32} {bs cs : List Nat} (h1 : pi_is f bs) (h2 : ∀ i, i < cs.length → f (bs.length + i) = nI (cs.getD i 0) ∧ cs.getD i 0 < 128) : pi_is f (bs ++ cs) := by
  intro i hi
  rw [List.length_append] at hi
  by_cases h : i < bs.length
  · rw [gd_app h]; exact h1 i h
  · obtain ⟨j, rfl⟩ : ∃ j, i = bs.length + j := ⟨i - bs.length, by omega⟩
    rw [gd_app2]; exact h2 j (by omega)
theorem pi_pre {f : Nat → Int32} {bs cs : List Nat} (h : pi_is f (bs ++ cs)) : pi_is f bs := by
  intro i hi
  have := h i (by rw [List.length_append]; omega)
  rw [gd_app hi] at this; exact this
theorem pi_put {f : Nat → Int32} {bs : List Nat} {c : Nat} (h : pi_is f bs) (hc : c < 128) : pi_is (upd f bs.length (vp_nar .byte (nI c).toInt8.toInt32)) (bs ++ [c]) := by
  refine pi_app (fun i hi => ?_) (fun i hi => ?_)
  · rw [pk_un (by omega)]; exact h i hi
  · have e : i = 0 := by simpa using hi
    subst e
    rw [Nat.add_zero, pk_us, pk_vb, by_nI hc]
    exact ⟨rfl, hc⟩
abbrev pc_Pi (sz zp : Int32) (f : Nat → Int32) : ax_H := [(7, .inr (3, [.ref 8, .int sz, .int zp])), (8, .inl (1, 520, .inl f))]
/-- the piece holds these letters -/
def pi_P (bs : List Nat) (zp : Int32) (h : ax_H) : Prop := ∃ f, h = pc_Pi (nI bs.length) zp f ∧ pi_is f bs
abbrev pc_Di (lf pl bl ha ze : Bool) (w : Int32) (wt : Bool) (pr : Int32) (pt : Bool) (k : Int32) (gr : Bool) (pl2 : Int32) : ax_H := [(5, .inr (1, [.int (zb lf), .int (zb pl), .int (zb bl), .int (zb ha), .int (zb ze), .int w, .int (zb wt), .int pr, .int (zb pt), .int k, .int (zb gr), .int pl2]))]
def ax_lsb : List (Nat × Value) → List (Nat × Value) → Prop
  | [], _ => True
  | q :: r, lv => ax_q q.1 lv = some q.2 ∧ ax_lsb r lv
theorem ax_lsb_mem : ∀ {lv' lv : List (Nat × Value)}, ax_lsb lv' lv → ∀ q ∈ lv', q ∈ lv
  | [], _, _, _, hq => absurd hq List.not_mem_nil
  | _ :: _, _, hs, q, hq => by
    rcases List.mem_cons.mp hq with e | e
    · subst e; exact ax_q_mem hs.1
    · exact ax_lsb_mem hs.2 q e
theorem ax_less {p : Program} {l : Launch} {e : Env} {R : Room} {s : State} {m : MethodId} {args : Array Value} {below : List Frame} {meth : Method} {c : Code} {cells slots : Nat} {Q : State → Prop} {D : va_G} {cid : Nat → ClassId} {ad : Nat → Nat} {A : Nat → Prop} {nL : Nat} {pc : Nat} {lv lv' : List (Nat × Value)} {st : List Value} {h : ax_H}
    (k : ax_V p l e R s m args below meth c D cid ad A nL cells slots Q pc lv' st h) (hs : ax_lsb lv' lv) : ax_V p l e R s m args below meth c D cid ad A nL cells slots Q pc lv st h :=
  fun H locs ls hP hD hS hl => k H locs ls hP hD hS ⟨hl.1, hl.2.1, fun q hq => by
    obtain ⟨q0, h0, rfl⟩ := List.mem_map.mp hq
    exact hl.2.2 _ (List.mem_map.mpr ⟨q0, ax_lsb_mem hs q0 h0, rfl⟩)⟩
end
section
/-! FormatDesk$Decimal: digitAt, becomeZero -/
set_option maxRecDepth 20000 in
set_option maxHeartbeats 1000000 in
/-- digitAt(i): the digit at i, 0 where there is none -/
theorem ct_De_digitAt (l : Launch) (lc pt i : Int32) (n : Nat) (lm : Nat → Int64) (dg : Nat → Int32) (hn : n ≤ 774) : ax_CT l y_De_digitAt c_De_digitAt 2 (some .int) 0 [.ref 9, .int i] (pc_De lc (nI n) pt lm dg) (fun r h => r = some (.int (if ¬ i < 0 ∧ i < nI n then dg i.toNatClampNeg else 0)) ∧ h = pc_De lc (nI n) pt lm dg) := by
  refine ax_ofV (by decide) (Nat.le_of_ble_eq_true rfl) ?_
  intro p e s m args below meth c D cid ad A Qc G hr E
  refine ax_iload_n G d_De_digitAt_0 rfl rfl ?_
  refine ax_if_lt (tgt := 21) G d_De_digitAt_1 (by decide) (fun c_1 => ?_) (fun c_1 => ?_)
  · refine ax_iconst (v := 0) G d_De_digitAt_21 (by decide) ?_
    exact ax_iret G hr E d_De_digitAt_22 rfl ⟨by rw [if_neg (fun z => z.1 c_1)], rfl⟩
  · refine ax_iload_n G d_De_digitAt_4 rfl rfl ?_
    refine ax_aload_n G d_De_digitAt_5 rfl rfl ?_
    refine ax_get (ci := 0) (j := 3) G d_De_digitAt_6 rfl rfl (by decide) k_De_21 rfl ?_
    refine ax_icmp_ge (tgt := 21) G d_De_digitAt_9 (by decide) (fun c_9 => ?_) (fun c_9 => ?_)
    · refine ax_iconst (v := 0) G d_De_digitAt_21 (by decide) ?_
      exact ax_iret G hr E d_De_digitAt_22 rfl ⟨by rw [if_neg (fun z => absurd c_9 (Int32.not_le.mpr z.2))], rfl⟩
    · have hlt : i < nI n := Int32.not_le.mp c_9
      obtain ⟨j, hj, rfl⟩ := nI_of c_1
      have hjn : j < n := (nI_ltI hj (by omega)).mp hlt
      refine ax_aload_n G d_De_digitAt_12 rfl rfl ?_
      refine ax_get (ci := 0) (j := 2) G d_De_digitAt_13 rfl rfl (by decide) k_De_17 rfl ?_
      refine ax_iload_n G d_De_digitAt_16 rfl rfl ?_
      refine ax_bald G d_De_digitAt_17 rfl (vp_in_nI (by omega) (by omega)) ?_
      refine ax_goto (tgt := 22) G d_De_digitAt_18 (by decide) ?_
      exact ax_iret G hr E d_De_digitAt_22 rfl ⟨by rw [if_pos ⟨c_1, hlt⟩], rfl⟩
set_option maxRecDepth 20000 in
set_option maxHeartbeats 1000000 in
/-- becomeZero(): no digits, one before the point -/
theorem ct_De_becomeZero (l : Launch) (lc dc pt : Int32) (lm : Nat → Int64) (dg : Nat → Int32) : ax_CT l y_De_becomeZero c_De_becomeZero 1 none 0 [.ref 9] (pc_De lc dc pt lm dg) (fun r h => r = none ∧ h = pc_De lc 0 1 lm dg) := by
  refine ax_ofV (by decide) (Nat.le_of_ble_eq_true rfl) ?_
  intro p e s m args below meth c D cid ad A Qc G hr E
  refine ax_aload_n G d_De_becomeZero_0 rfl rfl ?_
  refine ax_iconst (v := 0) G d_De_becomeZero_1 (by decide) ?_
  refine ax_put (ci := 0) (j := 3) G d_De_becomeZero_2 rfl rfl (by decide) k_De_21 rfl rfl rfl (Nat.le_of_ble_eq_true rfl) ?_
  refine ax_aload_n G d_De_becomeZero_5 rfl rfl ?_
  refine ax_iconst (v := 1) G d_De_becomeZero_6 (by decide) ?_
  refine ax_put (ci := 0) (j := 4) G d_De_becomeZero_7 rfl rfl (by decide) k_De_24 rfl rfl rfl (Nat.le_of_ble_eq_true rfl) ?_
  exact ax_vret G hr E d_De_becomeZero_10 rfl ⟨rfl, rfl⟩
end
section
/-! FormatDesk$Format -/
/-- the format: object 1, its row 2 -/
abbrev pc_Fo (n : Int32) (f : Nat → Int32) : ax_H := [(1, .inr (2, [.ref 2, .int n])), (2, .inl (1, 400, .inl f))]
/-- the row holds the octets c -/
def fo_is (f : Nat → Int32) (n : Nat) (c : Nat → Nat) : Prop := ∀ i, i < n → f i = (nI (c i)).toInt8.toInt32 ∧ c i < 256
set_option maxRecDepth 20000 in
set_option maxHeartbeats 1000000 in
theorem ct_Fo_octet (l : Launch) (w : Int64) (i : Nat) (hi : i < 8) : ax_CT l y_Fo_octet c_Fo_octet 3 (some .int) 0 [.long w, .int (nI i)] [] (fun r h => r = some (.int (nI (oc w i))) ∧ h = []) := by
  refine ax_ofV (by decide) (Nat.le_of_ble_eq_true rfl) ?_
  intro p e s m args below meth c D cid ad A Qc G hr E
  refine ax_lload_n G d_Fo_octet_0 rfl rfl ?_
  refine ax_bipush (v := 56) G d_Fo_octet_1 (by decide) ?_
  refine ax_bipush (v := 8) G d_Fo_octet_3 (by decide) ?_
  refine ax_iload_n G d_Fo_octet_5 rfl rfl ?_
  refine ax_imul G d_Fo_octet_6 ?_
  refine ax_isub G d_Fo_octet_7 ?_
  refine ax_lushr G d_Fo_octet_8 ?_
  refine ax_l2i G d_Fo_octet_9 ?_
  refine ax_sipush (v := 255) G d_Fo_octet_10 (by decide) ?_
  refine ax_iand G d_Fo_octet_13 ?_
  rw [oc_i w i hi]
  exact ax_iret G hr E d_Fo_octet_14 rfl ⟨rfl, rfl⟩
set_option maxRecDepth 20000 in
set_option maxHeartbeats 1000000 in
theorem ct_Fo_octetsBeforeZero (l : Launch) (w : Int64) : ax_CT l y_Fo_octetsBeforeZero c_Fo_octetsBeforeZero 3 (some .int) 1 [.long w] [] (fun r h => r = some (.int (nI (octs w))) ∧ h = []) := by
  refine ax_ofV (by decide) (Nat.le_of_ble_eq_true rfl) ?_
  intro p e s m args below meth c D cid ad A Qc G hr E
  have loop : ∀ (k i : Nat), k + i = 8 → ocs w i k = octs w → ax_V p l e (ax_rm 1) s m args below meth c D cid ad A 3 0 0 (MQ below Qc args s 0 0 A) 2 [(0, .long w), (2, .int (nI i))] [] [] := by
    intro k
    induction k with
    | zero =>
      intro i hi he
      refine ax_iload_n G d_Fo_octetsBeforeZero_2 rfl rfl ?_
      refine ax_bipush (v := 8) G d_Fo_octetsBeforeZero_3 (by decide) ?_
      refine ax_icmp_ge (tgt := 24) G d_Fo_octetsBeforeZero_5 (by decide) (fun c_5 => ?_) (fun c_5 => ?_)
      · refine ax_bipush (v := 8) G d_Fo_octetsBeforeZero_24 (by decide) ?_
        refine ax_iret G hr E d_Fo_octetsBeforeZero_26 rfl ⟨?_, rfl⟩
        rw [← he, show i = 8 by omega]
        rfl
      · exact absurd (by rw [show i = 8 by omega]; decide) c_5
    | succ k ih =>
      intro i hi he
      refine ax_iload_n G d_Fo_octetsBeforeZero_2 rfl rfl ?_
      refine ax_bipush (v := 8) G d_Fo_octetsBeforeZero_3 (by decide) ?_
      refine ax_icmp_ge (tgt := 24) G d_Fo_octetsBeforeZero_5 (by decide) (fun c_5 => ?_) (fun c_5 => ?_)
      · exact absurd c_5 (nI_ge (by omega) (by decide) : ¬ nI 8 ≤ nI i)
      · refine ax_lload_n G d_Fo_octetsBeforeZero_8 rfl rfl ?_
        refine ax_iload_n G d_Fo_octetsBeforeZero_9 rfl rfl ?_
        refine ax_callS (n := 2) G (ct_Fo_octet l w i (by omega)) d_Fo_octetsBeforeZero_10 rfl trivial rfl kc_Fo_octet ⟨k_Fo_19, kt_Fo_octet, kk_Fo⟩ (by decide +kernel) rfl ⟨by decide, by decide⟩ (Nat.le_of_ble_eq_true rfl) ⟨by decide, by decide⟩ (fun r hc_ hq hk_ => ?_)
        obtain ⟨rfl, rfl⟩ := hq
        have hz : nI (oc w i) = 0 ↔ oc w i = 0 := by
          have := nI_eq (a := oc w i) (b := 0) (by have := oc_lt w i; omega) (by decide)
          rw [nI_0] at this; exact this
        unfold ocs at he
        refine ax_if_ne (tgt := 18) G d_Fo_octetsBeforeZero_13 (by decide) (fun c_13 => ?_) (fun c_13 => ?_)
        · rw [if_neg (fun q => c_13 (hz.mpr q))] at he
          refine ax_iincZ (z := 1) G d_Fo_octetsBeforeZero_18 rfl (by decide) (by decide) ?_
          refine ax_goto (tgt := 2) G d_Fo_octetsBeforeZero_21 (by decide) ?_
          rw [nI_1]
          exact ih (i + 1) (by omega) he
        · rw [if_pos (hz.mp c_13)] at he
          refine ax_iload_n G d_Fo_octetsBeforeZero_16 rfl rfl ?_
          exact ax_iret G hr E d_Fo_octetsBeforeZero_17 rfl ⟨by rw [he], rfl⟩
  refine ax_iconst (v := 0) G d_Fo_octetsBeforeZero_0 (by decide) ?_
  refine ax_istore_n G d_Fo_octetsBeforeZero_1 rfl (by decide) ?_
  exact loop 8 0 rfl rfl
set_option maxRecDepth 20000 in
set_option maxHeartbeats 1000000 in
theorem ct_Fo_isForeign (l : Launch) (n : Nat) (hn : n < 2 ^ 31) : ax_CT l y_Fo_isForeign c_Fo_isForeign 1 (some .boolean) 0 [.int (nI n)] [] (fun r h => r = some (.int (if n < 32 ∨ 126 < n then 1 else 0)) ∧ h = []) := by
  refine ax_ofV (by decide) (Nat.le_of_ble_eq_true rfl) ?_
  intro p e s m args below meth c D cid ad A Qc G hr E
  have e1 : (nI n < 32) ↔ n < 32 := nI_ltI hn (b := 32) (by decide)
  have e2 : (nI n ≤ 126) ↔ n ≤ 126 := nI_leI hn (b := 126) (by decide)
  refine ax_iload_n G d_Fo_isForeign_0 rfl rfl ?_
  refine ax_bipush (v := 32) G d_Fo_isForeign_1 (by decide) ?_
  refine ax_icmp_lt (tgt := 12) G d_Fo_isForeign_3 (by decide) (fun c_3 => ?_) (fun c_3 => ?_)
  · refine ax_iconst (v := 1) G d_Fo_isForeign_12 (by decide) ?_
    refine ax_goto (tgt := 17) G d_Fo_isForeign_13 (by decide) ?_
    exact ax_zret G hr E rfl d_Fo_isForeign_17 rfl ⟨by rw [if_pos (Or.inl (e1.mp c_3))], rfl⟩
  · refine ax_iload_n G d_Fo_isForeign_6 rfl rfl ?_
    refine ax_bipush (v := 126) G d_Fo_isForeign_7 (by decide) ?_
    refine ax_icmp_le (tgt := 16) G d_Fo_isForeign_9 (by decide) (fun c_9 => ?_) (fun c_9 => ?_)
    · refine ax_iconst (v := 0) G d_Fo_isForeign_16 (by decide) ?_
      exact ax_zret G hr E rfl d_Fo_isForeign_17 rfl ⟨by rw [if_neg (by have := e2.mp c_9; have : ¬ n < 32 := fun q => c_3 (e1.mpr q); omega)], rfl⟩
    · refine ax_iconst (v := 1) G d_Fo_isForeign_12 (by decide) ?_
      refine ax_goto (tgt := 17) G d_Fo_isForeign_13 (by decide) ?_
      exact ax_zret G hr E rfl d_Fo_isForeign_17 rfl ⟨by rw [if_pos (Or.inr (by have : ¬ n ≤ 126 := fun q => c_9 (e2.mpr q); omega))], rfl⟩
set_option maxRecDepth 20000 in
set_option maxHeartbeats 1000000 in
theorem ct_Fo_letterAt (l : Launch) (n i : Nat) (f : Nat → Int32) (c : Nat → Nat) (hf : fo_is f n c) (hn : n ≤ 400) (hi : i < 2 ^ 31) : ax_CT l y_Fo_letterAt c_Fo_letterAt 2 (some .int) 0 [.ref 1, .int (nI i)] (pc_Fo (nI n) f) (fun r h => r = some (.int (nI (if i < n then c i else 0))) ∧ h = pc_Fo (nI n) f) := by
  refine ax_ofV (by decide) (Nat.le_of_ble_eq_true rfl) ?_
  intro p e s m args below meth c' D cid ad A Qc G hr E
  refine ax_iload_n G d_Fo_letterAt_0 rfl rfl ?_
  refine ax_if_lt (tgt := 25) G d_Fo_letterAt_1 (by decide) (fun c_1 => ?_) (fun c_1 => ?_)
  · exact absurd c_1 (nI_pos hi)
  · refine ax_iload_n G d_Fo_letterAt_4 rfl rfl ?_
    refine ax_aload_n G d_Fo_letterAt_5 rfl rfl ?_
    refine ax_get (ci := 2) (j := 1) G d_Fo_letterAt_6 rfl rfl (by decide) k_Fo_15 rfl ?_
    refine ax_icmp_ge (tgt := 25) G d_Fo_letterAt_9 (by decide) (fun c_9 => ?_) (fun c_9 => ?_)
    · refine ax_iconst (v := 0) G d_Fo_letterAt_25 (by decide) ?_
      exact ax_iret G hr E d_Fo_letterAt_26 rfl ⟨by rw [if_neg (by have := (nI_leI (by omega) hi).mp c_9; omega)]; rfl, rfl⟩
    · have hlt : i < n := by
        rcases Nat.lt_or_ge i n with q | q
        · exact q
        · exact absurd (nI_le q hi) c_9
      refine ax_aload_n G d_Fo_letterAt_12 rfl rfl ?_
      refine ax_get (ci := 2) (j := 0) G d_Fo_letterAt_13 rfl rfl (by decide) k_Fo_9 rfl ?_
      refine ax_iload_n G d_Fo_letterAt_16 rfl rfl ?_
      refine ax_bald G d_Fo_letterAt_17 rfl (vp_in_nI (by omega) (by omega)) ?_
      refine ax_sipush (v := 255) G d_Fo_letterAt_18 (by decide) ?_
      rw [nI_clamp hi, (hf i hlt).1]
      refine ax_iand G d_Fo_letterAt_21 ?_
      rw [by_and (hf i hlt).2]
      refine ax_goto (tgt := 26) G d_Fo_letterAt_22 (by decide) ?_
      exact ax_iret G hr E d_Fo_letterAt_26 rfl ⟨by rw [if_pos hlt], rfl⟩
/-- the first foreign letter from i on, -1 if there is none -/
def frg (c : Nat → Nat) (i : Nat) : Nat → Int32
  | 0 => -1
  | k + 1 => if c i < 32 ∨ 126 < c i then nI i else frg c (i + 1) k
theorem frg_s (c : Nat → Nat) (i k : Nat) : frg c i (k + 1) = if c i < 32 ∨ 126 < c i then nI i else frg c (i + 1) k := rfl
set_option maxRecDepth 20000 in
set_option maxHeartbeats 1000000 in
theorem ct_Fo_placeOfForeignLetter (l : Launch) (n : Nat) (f : Nat → Int32) (c : Nat → Nat) (hf : fo_is f n c) (hn : n ≤ 400) : ax_CT l y_Fo_placeOfForeignLetter c_Fo_placeOfForeignLetter 2 (some .int) 1 [.ref 1] (pc_Fo (nI n) f) (fun r h => r = some (.int (frg c 0 n)) ∧ h = pc_Fo (nI n) f) := by
  refine ax_ofV (by decide) (Nat.le_of_ble_eq_true rfl) ?_
  intro p e s m args below meth c' D cid ad A Qc G hr E
  have loop : ∀ (k i : Nat), k + i = n → frg c i k = frg c 0 n → ax_V p l e (ax_rm 1) s m args below meth c' D cid ad A 2 0 0 (MQ below Qc args s 0 0 A) 2 [(0, .ref 1), (1, .int (nI i))] [] (pc_Fo (nI n) f) := by
    intro k
    induction k with
    | zero =>
      intro i hi he
      refine ax_iload_n G d_Fo_placeOfForeignLetter_2 rfl rfl ?_
      refine ax_aload_n G d_Fo_placeOfForeignLetter_3 rfl rfl ?_
      refine ax_get (ci := 2) (j := 1) G d_Fo_placeOfForeignLetter_4 rfl rfl (by decide) k_Fo_15 rfl ?_
      refine ax_icmp_ge (tgt := 29) G d_Fo_placeOfForeignLetter_7 (by decide) (fun c_7 => ?_) (fun c_7 => ?_)
      · refine ax_iconst (v := (-1)) G d_Fo_placeOfForeignLetter_29 (by decide) ?_
        exact ax_iret G hr E d_Fo_placeOfForeignLetter_30 rfl ⟨by rw [← he]; rfl, rfl⟩
      · exact absurd (nI_le (by omega) (by omega)) c_7
    | succ k ih =>
      intro i hi he
      refine ax_iload_n G d_Fo_placeOfForeignLetter_2 rfl rfl ?_
      refine ax_aload_n G d_Fo_placeOfForeignLetter_3 rfl rfl ?_
      refine ax_get (ci := 2) (j := 1) G d_Fo_placeOfForeignLetter_4 rfl rfl (by decide) k_Fo_15 rfl ?_
      refine ax_icmp_ge (tgt := 29) G d_Fo_placeOfForeignLetter_7 (by decide) (fun c_7 => ?_) (fun c_7 => ?_)
      · exact absurd c_7 (nI_ge (by omega) (by omega))
      · refine ax_aload_n G d_Fo_placeOfForeignLetter_10 rfl rfl ?_
        refine ax_iload_n G d_Fo_placeOfForeignLetter_11 rfl rfl ?_
        refine ax_callV (n := 1) G (ct_Fo_letterAt l n i f c hf hn (by omega)) d_Fo_placeOfForeignLetter_12 rfl ⟨rfl, rfl, trivial⟩ rfl rfl rfl kc_Fo_letterAt ⟨k_Fo_23, ki_Fo_letterAt, ks_Fo_letterAt, kk_Fo⟩ (by decide +kernel) rfl ⟨by decide, by decide⟩ (Nat.le_of_ble_eq_true rfl) ⟨by decide, by decide⟩ (fun r hc_ hq hk_ => ?_)
        obtain ⟨rfl, rfl⟩ := hq
        rw [if_pos (show i < n by omega)]
        refine ax_callS (n := 1) G (ct_Fo_isForeign l (c i) (by have := (hf i (by omega)).2; omega)) d_Fo_placeOfForeignLetter_15 rfl trivial rfl kc_Fo_isForeign ⟨k_Fo_27, kt_Fo_isForeign, kk_Fo⟩ (by decide +kernel) rfl ⟨by decide, by decide⟩ (Nat.le_of_ble_eq_true rfl) ⟨by decide, by decide⟩ (fun r hc_ hq hk_ => ?_)
        obtain ⟨rfl, rfl⟩ := hq
        rw [frg_s] at he
        by_cases hc : c i < 32 ∨ 126 < c i
        · rw [if_pos hc] at he ⊢
          refine ax_if_eq (tgt := 23) G d_Fo_placeOfForeignLetter_18 (by decide) (fun c_18 => ?_) (fun c_18 => ?_)
          · exact absurd c_18 (by decide)
          · refine ax_iload_n G d_Fo_placeOfForeignLetter_21 rfl rfl ?_
            exact ax_iret G hr E d_Fo_placeOfForeignLetter_22 rfl ⟨by rw [he], rfl⟩
        · rw [if_neg hc] at he ⊢
          refine ax_if_eq (tgt := 23) G d_Fo_placeOfForeignLetter_18 (by decide) (fun c_18 => ?_) (fun c_18 => ?_)
          · refine ax_iincZ (z := 1) G d_Fo_placeOfForeignLetter_23 rfl (by decide) (by decide) ?_
            refine ax_goto (tgt := 2) G d_Fo_placeOfForeignLetter_26 (by decide) ?_
            rw [nI_1]
            exact ih (i + 1) (by omega) he
          · exact absurd rfl c_18
  refine ax_iconst (v := 0) G d_Fo_placeOfForeignLetter_0 (by decide) ?_
  refine ax_istore_n G d_Fo_placeOfForeignLetter_1 rfl (by decide) ?_
  exact loop n 0 rfl rfl
set_option maxRecDepth 20000 in
set_option maxHeartbeats 1000000 in
theorem ct_Fo_add (l : Launch) (w : Int64) (n k : Nat) (f : Nat → Int32) (hn : n + k ≤ 400) (hk8 : k ≤ 8) : ax_CT l y_Fo_add c_Fo_add 5 none 1 [.ref 1, .long w, .int (nI k)] (pc_Fo (nI n) f) (fun r h => r = none ∧ ∃ f', h = pc_Fo (nI (n + k)) f' ∧ (∀ i, i < n → f' i = f i) ∧ ∀ i, i < k → f' (n + i) = (nI (oc w i)).toInt8.toInt32) := by
  refine ax_ofV (by decide) (Nat.le_of_ble_eq_true rfl) ?_
  intro p e s m args below meth c D cid ad A Qc G hr E
  have loop : ∀ (j i : Nat) (f' : Nat → Int32), j + i = k → (∀ a, a < n → f' a = f a) → (∀ a, a < i → f' (n + a) = (nI (oc w a)).toInt8.toInt32) → ax_V p l e (ax_rm 1) s m args below meth c D cid ad A 5 0 0 (MQ below Qc args s 0 0 A) 3 [(0, .ref 1), (1, .long w), (3, .int (nI k)), (4, .int (nI i))] [] (pc_Fo (nI (n + i)) f') := by
    intro j
    induction j with
    | zero =>
      intro i f' hi h1 h2
      have e : i = k := by omega
      subst e
      refine ax_iload G d_Fo_add_3 rfl ?_
      refine ax_iload_n G d_Fo_add_5 rfl rfl ?_
      refine ax_icmp_ge (tgt := 53) G d_Fo_add_6 (by decide) (fun c_6 => ?_) (fun c_6 => ?_)
      · exact ax_vret G hr E d_Fo_add_53 rfl ⟨rfl, f', rfl, h1, h2⟩
      · exact absurd (nI_le (Nat.le_refl _) (by omega)) c_6
    | succ j ih =>
      intro i f' hi h1 h2
      refine ax_iload G d_Fo_add_3 rfl ?_
      refine ax_iload_n G d_Fo_add_5 rfl rfl ?_
      refine ax_icmp_ge (tgt := 53) G d_Fo_add_6 (by decide) (fun c_6 => ?_) (fun c_6 => ?_)
      · exact absurd c_6 (nI_ge (by omega) (by omega))
      · refine ax_aload_n G d_Fo_add_9 rfl rfl ?_
        refine ax_get (ci := 2) (j := 1) G d_Fo_add_10 rfl rfl (by decide) k_Fo_15 rfl ?_
        refine ax_aload_n G d_Fo_add_13 rfl rfl ?_
        refine ax_get (ci := 2) (j := 0) G d_Fo_add_14 rfl rfl (by decide) k_Fo_9 rfl ?_
        refine ax_alen (v := (nI 400)) G d_Fo_add_17 rfl (by decide) rfl ?_
        refine ax_icmp_ge (tgt := 53) G d_Fo_add_18 (by decide) (fun c_18 => ?_) (fun c_18 => ?_)
        · exact absurd c_18 (nI_ge (by omega) (by decide))
        · refine ax_aload_n G d_Fo_add_21 rfl rfl ?_
          refine ax_get (ci := 2) (j := 0) G d_Fo_add_22 rfl rfl (by decide) k_Fo_9 rfl ?_
          refine ax_aload_n G d_Fo_add_25 rfl rfl ?_
          refine ax_get (ci := 2) (j := 1) G d_Fo_add_26 rfl rfl (by decide) k_Fo_15 rfl ?_
          refine ax_lload_n G d_Fo_add_29 rfl rfl ?_
          refine ax_iload G d_Fo_add_30 rfl ?_
          refine ax_callS (n := 2) G (ct_Fo_octet l w i (by omega)) d_Fo_add_32 rfl trivial rfl kc_Fo_octet ⟨k_Fo_19, kt_Fo_octet, kk_Fo⟩ (by decide +kernel) rfl ⟨by decide, by decide⟩ (Nat.le_of_ble_eq_true rfl) ⟨by decide, by decide⟩ (fun r hc_ hq hk_ => ?_)
          obtain ⟨rfl, rfl⟩ := hq
          refine ax_i2b G d_Fo_add_35 ?_
          refine ax_bast G d_Fo_add_36 rfl (vp_in_nI (by omega) (by omega)) ?_
          refine ax_aload_n G d_Fo_add_37 rfl rfl ?_
          refine ax_dup G d_Fo_add_38 rfl ?_
          refine ax_get (ci := 2) (j := 1) G d_Fo_add_39 rfl rfl (by decide) k_Fo_15 rfl ?_
          refine ax_iconst (v := 1) G d_Fo_add_42 (by decide) ?_
          refine ax_iadd G d_Fo_add_43 ?_
          refine ax_put (ci := 2) (j := 1) G d_Fo_add_44 rfl rfl (by decide) k_Fo_15 rfl rfl rfl (Nat.le_of_ble_eq_true rfl) ?_
          refine ax_iincZ (z := 1) G d_Fo_add_47 rfl (by decide) (by decide) ?_
          refine ax_goto (tgt := 3) G d_Fo_add_50 (by decide) ?_
          rw [nI_1, nI_1, nI_clamp (by omega)]
          refine ih (i + 1) _ (by omega) (fun a ha => ?_) (fun a ha => ?_)
          · rw [pk_un (by omega)]; exact h1 a ha
          · by_cases hai : a = i
            · subst hai
              rw [pk_us, pk_vb]
            · rw [pk_un (by omega)]
              exact h2 a (by omega)
  refine ax_iconst (v := 0) G d_Fo_add_0 (by decide) ?_
  refine ax_istore G d_Fo_add_1 (by decide) ?_
  exact loop k 0 f (by omega) (fun _ _ => rfl) (fun a ha => absurd ha (Nat.not_lt_zero a))
end
section
/-! FormatDesk$Piece -/
theorem addm1 (x : Int32) : x + (-1) = x - 1 := (Int32.sub_eq_add_neg x 1).symm
set_option maxRecDepth 20000 in
set_option maxHeartbeats 1000000 in
theorem ct_Pi_becomeEmpty (l : Launch) (sz zp : Int32) (f : Nat → Int32) : ax_CT l y_Pi_becomeEmpty c_Pi_becomeEmpty 1 none 0 [.ref 7] (pc_Pi sz zp f) (fun r h => r = none ∧ h = pc_Pi 0 (-1) f) := by
  refine ax_ofV (by decide) (Nat.le_of_ble_eq_true rfl) ?_
  intro p e s m args below meth c D cid ad A Qc G hr E
  refine ax_aload_n G d_Pi_becomeEmpty_0 rfl rfl ?_
  refine ax_iconst (v := 0) G d_Pi_becomeEmpty_1 (by decide) ?_
  refine ax_put (ci := 3) (j := 1) G d_Pi_becomeEmpty_2 rfl rfl (by decide) k_Pi_15 rfl rfl rfl (Nat.le_of_ble_eq_true rfl) ?_
  refine ax_aload_n G d_Pi_becomeEmpty_5 rfl rfl ?_
  refine ax_iconst (v := (-1)) G d_Pi_becomeEmpty_6 (by decide) ?_
  refine ax_put (ci := 3) (j := 2) G d_Pi_becomeEmpty_7 rfl rfl (by decide) k_Pi_19 rfl rfl rfl (Nat.le_of_ble_eq_true rfl) ?_
  exact ax_vret G hr E d_Pi_becomeEmpty_10 rfl ⟨rfl, rfl⟩
set_option maxRecDepth 20000 in
set_option maxHeartbeats 1000000 in
theorem ct_Pi_letZerosComeHere (l : Launch) (sz zp : Int32) (f : Nat → Int32) : ax_CT l y_Pi_letZerosComeHere c_Pi_letZerosComeHere 1 none 0 [.ref 7] (pc_Pi sz zp f) (fun r h => r = none ∧ h = pc_Pi sz sz f) := by
  refine ax_ofV (by decide) (Nat.le_of_ble_eq_true rfl) ?_
  intro p e s m args below meth c D cid ad A Qc G hr E
  refine ax_aload_n G d_Pi_letZerosComeHere_0 rfl rfl ?_
  refine ax_aload_n G d_Pi_letZerosComeHere_1 rfl rfl ?_
  refine ax_get (ci := 3) (j := 1) G d_Pi_letZerosComeHere_2 rfl rfl (by decide) k_Pi_15 rfl ?_
  refine ax_put (ci := 3) (j := 2) G d_Pi_letZerosComeHere_5 rfl rfl (by decide) k_Pi_19 rfl rfl rfl (Nat.le_of_ble_eq_true rfl) ?_
  exact ax_vret G hr E d_Pi_letZerosComeHere_8 rfl ⟨rfl, rfl⟩
set_option maxRecDepth 20000 in
set_option maxHeartbeats 1000000 in
theorem ct_Pi_letterAt (l : Launch) (bs : List Nat) (zp : Int32) (f : Nat → Int32) (i : Nat) (hf : pi_is f bs) (hb : bs.length ≤ 520) (hi : i < bs.length) : ax_CT l y_Pi_letterAt c_Pi_letterAt 2 (some .int) 0 [.ref 7, .int (nI i)] (pc_Pi (nI bs.length) zp f) (fun r h => r = some (.int (nI (bs.getD i 0))) ∧ h = pc_Pi (nI bs.length) zp f) := by
  refine ax_ofV (by decide) (Nat.le_of_ble_eq_true rfl) ?_
  intro p e s m args below meth c D cid ad A Qc G hr E
  refine ax_iload_n G d_Pi_letterAt_0 rfl rfl ?_
  refine ax_if_lt (tgt := 21) G d_Pi_letterAt_1 (by decide) (fun c_1 => ?_) (fun c_1 => ?_)
  · exact absurd c_1 (nI_pos (by omega))
  · refine ax_iload_n G d_Pi_letterAt_4 rfl rfl ?_
    refine ax_aload_n G d_Pi_letterAt_5 rfl rfl ?_
    refine ax_get (ci := 3) (j := 1) G d_Pi_letterAt_6 rfl rfl (by decide) k_Pi_15 rfl ?_
    refine ax_icmp_ge (tgt := 21) G d_Pi_letterAt_9 (by decide) (fun c_9 => ?_) (fun c_9 => ?_)
    · exact absurd c_9 (nI_ge hi (by omega))
    · refine ax_aload_n G d_Pi_letterAt_12 rfl rfl ?_
      refine ax_get (ci := 3) (j := 0) G d_Pi_letterAt_13 rfl rfl (by decide) k_Pi_11 rfl ?_
      refine ax_iload_n G d_Pi_letterAt_16 rfl rfl ?_
      refine ax_bald G d_Pi_letterAt_17 rfl (vp_in_nI (by omega) (by omega)) ?_
      rw [nI_clamp (by omega), (hf i hi).1]
      refine ax_goto (tgt := 23) G d_Pi_letterAt_18 (by decide) ?_
      exact ax_iret G hr E d_Pi_letterAt_23 rfl ⟨rfl, rfl⟩
set_option maxRecDepth 20000 in
set_option maxHeartbeats 1000000 in
theorem ct_Pi_put (l : Launch) (bs : List Nat) (c0 : Nat) (zp : Int32) (f : Nat → Int32) (hf : pi_is f bs) (hb : bs.length < 520) (hc : c0 < 128) : ax_CT l y_Pi_put c_Pi_put 2 none 0 [.ref 7, .int (nI c0)] (pc_Pi (nI bs.length) zp f) (fun r h => r = none ∧ pi_P (bs ++ [c0]) zp h) := by
  refine ax_ofV (by decide) (Nat.le_of_ble_eq_true rfl) ?_
  intro p e s m args below meth c D cid ad A Qc G hr E
  refine ax_aload_n G d_Pi_put_0 rfl rfl ?_
  refine ax_get (ci := 3) (j := 1) G d_Pi_put_1 rfl rfl (by decide) k_Pi_15 rfl ?_
  refine ax_aload_n G d_Pi_put_4 rfl rfl ?_
  refine ax_get (ci := 3) (j := 0) G d_Pi_put_5 rfl rfl (by decide) k_Pi_11 rfl ?_
  refine ax_alen (v := (nI 520)) G d_Pi_put_8 rfl (by decide) rfl ?_
  refine ax_icmp_ge (tgt := 33) G d_Pi_put_9 (by decide) (fun c_9 => ?_) (fun c_9 => ?_)
  · exact absurd c_9 (nI_ge hb (by decide))
  · refine ax_aload_n G d_Pi_put_12 rfl rfl ?_
    refine ax_get (ci := 3) (j := 0) G d_Pi_put_13 rfl rfl (by decide) k_Pi_11 rfl ?_
    refine ax_aload_n G d_Pi_put_16 rfl rfl ?_
    refine ax_get (ci := 3) (j := 1) G d_Pi_put_17 rfl rfl (by decide) k_Pi_15 rfl ?_
    refine ax_iload_n G d_Pi_put_20 rfl rfl ?_
    refine ax_i2b G d_Pi_put_21 ?_
    refine ax_bast G d_Pi_put_22 rfl (vp_in_nI hb (by decide)) ?_
    rw [nI_clamp (by omega)]
    refine ax_aload_n G d_Pi_put_23 rfl rfl ?_
    refine ax_dup G d_Pi_put_24 rfl ?_
    refine ax_get (ci := 3) (j := 1) G d_Pi_put_25 rfl rfl (by decide) k_Pi_15 rfl ?_
    refine ax_iconst (v := 1) G d_Pi_put_28 (by decide) ?_
    refine ax_iadd G d_Pi_put_29 ?_
    refine ax_put (ci := 3) (j := 1) G d_Pi_put_30 rfl rfl (by decide) k_Pi_15 rfl rfl rfl (Nat.le_of_ble_eq_true rfl) ?_
    rw [nI_1]
    exact ax_vret G hr E d_Pi_put_33 rfl ⟨rfl, _, by rw [List.length_append]; rfl, pi_put hf hc⟩
set_option maxRecDepth 20000 in
set_option maxHeartbeats 1000000 in
theorem ct_Pi_putWord (l : Launch) (bs : List Nat) (t : Nat) (zp : Int32) (f : Nat → Int32) (hf : pi_is f bs) (ht : t < 8) (hb : bs.length + ax_len.getD t 0 ≤ 520) : ax_CT l y_Pi_putWord c_Pi_putWord 3 none 4 [.ref 7, .ref (100 + t)] (pc_Pi (nI bs.length) zp f) (fun r h => r = none ∧ pi_P (bs ++ st_wd t) zp h) := by
  refine ax_ofV (by decide) (Nat.le_of_ble_eq_true rfl) ?_
  intro p e s m args below meth c D cid ad A Qc G hr E
  have hL := (st_len t ht).2
  obtain ⟨hw, hwa⟩ := st_wd_at t ht
  have loop : ∀ (k i : Nat) (f' : Nat → Int32), k + i = ax_len.getD t 0 → pi_is f' (bs ++ (st_wd t).take i) → ax_V p l e (ax_rm 4) s m args below meth c D cid ad A 3 0 0 (MQ below Qc args s 0 0 A) 2 [(0, .ref 7), (1, .ref (100 + t)), (2, .int (nI i))] [] (pc_Pi (nI (bs ++ (st_wd t).take i).length) zp f') := by
    intro k
    induction k with
    | zero =>
      intro i f' hi hf'
      refine ax_iload_n G d_Pi_putWord_2 rfl rfl ?_
      refine ax_aload_n G d_Pi_putWord_3 rfl rfl ?_
      refine ax_callK (n := 0) G ht (ct_St_length l t ht) d_Pi_putWord_4 rfl trivial rfl kc_St_length ⟨k_Pi_22, ki_St_length, ks_St_length, kk_St⟩ (by decide +kernel) rfl ⟨by decide, by decide⟩ (Nat.le_of_ble_eq_true rfl) ⟨by decide, by decide⟩ (fun r hc_ hq hk_ => ?_)
      obtain ⟨rfl, rfl⟩ := hq
      refine ax_icmp_ge (tgt := 25) G d_Pi_putWord_7 (by decide) (fun c_7 => ?_) (fun c_7 => ?_)
      · rw [List.take_of_length_le (by omega)] at hf' ⊢
        exact ax_vret G hr E d_Pi_putWord_25 rfl ⟨rfl, f', rfl, hf'⟩
      · exact absurd (nI_le (by omega) (by omega)) c_7
    | succ k ih =>
      intro i f' hi hf'
      refine ax_iload_n G d_Pi_putWord_2 rfl rfl ?_
      refine ax_aload_n G d_Pi_putWord_3 rfl rfl ?_
      refine ax_callK (n := 0) G ht (ct_St_length l t ht) d_Pi_putWord_4 rfl trivial rfl kc_St_length ⟨k_Pi_22, ki_St_length, ks_St_length, kk_St⟩ (by decide +kernel) rfl ⟨by decide, by decide⟩ (Nat.le_of_ble_eq_true rfl) ⟨by decide, by decide⟩ (fun r hc_ hq hk_ => ?_)
      obtain ⟨rfl, rfl⟩ := hq
      refine ax_icmp_ge (tgt := 25) G d_Pi_putWord_7 (by decide) (fun c_7 => ?_) (fun c_7 => ?_)
      · exact absurd c_7 (nI_ge (by omega) (by omega))
      · refine ax_aload_n G d_Pi_putWord_10 rfl rfl ?_
        refine ax_aload_n G d_Pi_putWord_11 rfl rfl ?_
        refine ax_iload_n G d_Pi_putWord_12 rfl rfl ?_
        refine ax_callK (n := 1) G ht (ct_St_charAt l t i ht (by omega)) d_Pi_putWord_13 rfl trivial rfl kc_St_charAt ⟨k_Pi_28, ki_St_charAt, ks_St_charAt, kk_St⟩ (by decide +kernel) rfl ⟨by decide, by decide⟩ (Nat.le_of_ble_eq_true rfl) ⟨by decide, by decide⟩ (fun r hc_ hq hk_ => ?_)
        obtain ⟨rfl, rfl⟩ := hq
        obtain ⟨e1, e2⟩ := hwa i (by omega)
        rw [e1]
        have hlen : (bs ++ (st_wd t).take i).length = bs.length + i := by rw [List.length_append, List.length_take]; omega
        refine ax_callV (n := 1) G (ct_Pi_put l (bs ++ (st_wd t).take i) ((st_wd t).getD i 0) zp f' hf' (by omega) e2) d_Pi_putWord_16 rfl ⟨rfl, rfl, trivial⟩ rfl rfl rfl kc_Pi_put ⟨k_Pi_32, ki_Pi_put, ks_Pi_put, kk_Pi⟩ (by decide +kernel) rfl ⟨by decide, by decide⟩ (Nat.le_of_ble_eq_true rfl) ⟨by decide, by decide⟩ (fun r hc_ hq hk_ => ?_)
        obtain ⟨rfl, f2, rfl, hf2⟩ := hq
        refine ax_iincZ (z := 1) G d_Pi_putWord_19 rfl (by decide) (by decide) ?_
        refine ax_goto (tgt := 2) G d_Pi_putWord_22 (by decide) ?_
        rw [nI_1]
        have e3 : bs ++ (st_wd t).take i ++ [(st_wd t).getD i 0] = bs ++ (st_wd t).take (i + 1) := by
          rw [List.append_assoc, List.take_add_one, List.getD_eq_getElem?_getD, List.getElem?_eq_getElem (by omega)]
          rfl
        rw [e3] at hf2
        have := ih (i + 1) f2 (by omega) hf2
        rw [← e3] at this
        exact this
  refine ax_iconst (v := 0) G d_Pi_putWord_0 (by decide) ?_
  refine ax_istore_n G d_Pi_putWord_1 rfl (by decide) ?_
  have := loop (ax_len.getD t 0) 0 f rfl (by rw [List.take_zero, List.append_nil]; exact hf)
  rw [List.take_zero, List.append_nil] at this
  exact this
set_option maxRecDepth 20000 in
set_option maxHeartbeats 1000000 in
theorem ct_Pi_putSign (l : Launch) (bs : List Nat) (neg : Bool) (zp : Int32) (f : Nat → Int32) (lf pl bl ha ze : Bool) (w : Int32) (wt : Bool) (pr : Int32) (pt : Bool) (kd : Int32) (gr : Bool) (pa : Int32) (hf : pi_is f bs) (hb : bs.length < 520) : ax_CT l y_Pi_putSign c_Pi_putSign 3 none 1 [.ref 7, .int (zb neg), .ref 5] (pc_Pi (nI bs.length) zp f ++ pc_Di lf pl bl ha ze w wt pr pt kd gr pa) (fun r h => r = none ∧ ∃ h1, h = h1 ++ pc_Di lf pl bl ha ze w wt pr pt kd gr pa ∧ pi_P (bs ++ sgn neg pl bl) zp h1) := by
  refine ax_ofV (by decide) (Nat.le_of_ble_eq_true rfl) ?_
  intro p e s m args below meth c D cid ad A Qc G hr E
  refine ax_iload_n G d_Pi_putSign_0 rfl rfl ?_
  refine ax_if_eq (tgt := 13) G d_Pi_putSign_1 (by decide) (fun c_1 => ?_) (fun c_1 => ?_)
  · have hn : neg = false := (zb_ne neg).mp c_1
    subst hn
    refine ax_aload_n G d_Pi_putSign_13 rfl rfl ?_
    refine ax_getN (ci := 1) (j := 1) G d_Pi_putSign_14 rfl rfl (by decide) k_Pi_36 rfl ?_
    refine ax_if_eq (tgt := 29) G d_Pi_putSign_17 (by decide) (fun c_17 => ?_) (fun c_17 => ?_)
    · have hp : pl = false := (zb_ne pl).mp c_17
      subst hp
      refine ax_aload_n G d_Pi_putSign_29 rfl rfl ?_
      refine ax_getN (ci := 1) (j := 2) G d_Pi_putSign_30 rfl rfl (by decide) k_Pi_42 rfl ?_
      refine ax_if_eq (tgt := 42) G d_Pi_putSign_33 (by decide) (fun c_33 => ?_) (fun c_33 => ?_)
      · have hz : bl = false := (zb_ne bl).mp c_33
        subst hz
        exact ax_vret G hr E d_Pi_putSign_42 rfl ⟨rfl, _, rfl, f, by rw [show sgn false false false = [] from rfl, List.append_nil], by rw [show sgn false false false = [] from rfl, List.append_nil]; exact hf⟩
      · have hz : bl = true := by cases bl; exact absurd rfl c_33; rfl
        subst hz
        refine ax_aload_n G d_Pi_putSign_36 rfl rfl ?_
        refine ax_bipush (v := 32) G d_Pi_putSign_37 (by decide) ?_
        refine ax_callV (n := 1) G (ct_Pi_put l bs 32 zp f hf hb (by decide)) d_Pi_putSign_39 rfl ⟨rfl, rfl, trivial⟩ rfl rfl rfl kc_Pi_put ⟨k_Pi_32, ki_Pi_put, ks_Pi_put, kk_Pi⟩ (by decide +kernel) rfl ⟨by decide, by decide⟩ (Nat.le_of_ble_eq_true rfl) ⟨by decide, by decide⟩ (fun r hc_ hq hk_ => ?_)
        obtain ⟨rfl, f2, rfl, hf2⟩ := hq
        exact ax_vret G hr E d_Pi_putSign_42 rfl ⟨rfl, _, rfl, f2, rfl, hf2⟩
    · have hp : pl = true := by cases pl; exact absurd rfl c_17; rfl
      subst hp
      refine ax_aload_n G d_Pi_putSign_20 rfl rfl ?_
      refine ax_bipush (v := 43) G d_Pi_putSign_21 (by decide) ?_
      refine ax_callV (n := 1) G (ct_Pi_put l bs 43 zp f hf hb (by decide)) d_Pi_putSign_23 rfl ⟨rfl, rfl, trivial⟩ rfl rfl rfl kc_Pi_put ⟨k_Pi_32, ki_Pi_put, ks_Pi_put, kk_Pi⟩ (by decide +kernel) rfl ⟨by decide, by decide⟩ (Nat.le_of_ble_eq_true rfl) ⟨by decide, by decide⟩ (fun r hc_ hq hk_ => ?_)
      obtain ⟨rfl, f2, rfl, hf2⟩ := hq
      refine ax_goto (tgt := 42) G d_Pi_putSign_26 (by decide) ?_
      exact ax_vret G hr E d_Pi_putSign_42 rfl ⟨rfl, _, rfl, f2, rfl, hf2⟩
  · have hn : neg = true := by cases neg; exact absurd rfl c_1; rfl
    subst hn
    refine ax_aload_n G d_Pi_putSign_4 rfl rfl ?_
    refine ax_bipush (v := 45) G d_Pi_putSign_5 (by decide) ?_
    refine ax_callV (n := 1) G (ct_Pi_put l bs 45 zp f hf hb (by decide)) d_Pi_putSign_7 rfl ⟨rfl, rfl, trivial⟩ rfl rfl rfl kc_Pi_put ⟨k_Pi_32, ki_Pi_put, ks_Pi_put, kk_Pi⟩ (by decide +kernel) rfl ⟨by decide, by decide⟩ (Nat.le_of_ble_eq_true rfl) ⟨by decide, by decide⟩ (fun r hc_ hq hk_ => ?_)
    obtain ⟨rfl, f2, rfl, hf2⟩ := hq
    refine ax_goto (tgt := 42) G d_Pi_putSign_10 (by decide) ?_
    exact ax_vret G hr E d_Pi_putSign_42 rfl ⟨rfl, _, rfl, f2, rfl, hf2⟩
set_option maxRecDepth 20000 in
set_option maxHeartbeats 1000000 in
theorem ct_Pi_putDigit (l : Launch) (bs : List Nat) (x : Int32) (n : Nat) (zp : Int32) (f : Nat → Int32) (hf : pi_is f bs) (hb : bs.length < 520) (hx0 : x.toBitVec.toNat % 16 = n) : ax_CT l y_Pi_putDigit c_Pi_putDigit 2 none 4 [.ref 7, .int x] (pc_Pi (nI bs.length) zp f) (fun r h => r = none ∧ pi_P (bs ++ [hx n]) zp h) := by
  refine ax_ofV (by decide) (Nat.le_of_ble_eq_true rfl) ?_
  intro p e s m args below meth c D cid ad A Qc G hr E
  have hn : n < 16 := by rw [← hx0]; exact Nat.mod_lt _ (by decide)
  refine ax_aload_n G d_Pi_putDigit_0 rfl rfl ?_
  refine ax_ldcS (tx := "0123456789abcdef") (t := 1) G d_Pi_putDigit_1 (by decide +kernel) ?_
  refine ax_iload_n G d_Pi_putDigit_3 rfl rfl ?_
  refine ax_bipush (v := 15) G d_Pi_putDigit_4 (by decide) ?_
  refine ax_iand G d_Pi_putDigit_6 ?_
  rw [pk_and x 4 (by decide), hx0]
  refine ax_callK (n := 1) G (by decide) (ct_St_charAt l 1 n (by decide) hn) d_Pi_putDigit_7 rfl trivial rfl kc_St_charAt ⟨k_Pi_28, ki_St_charAt, ks_St_charAt, kk_St⟩ (by decide +kernel) rfl ⟨by decide, by decide⟩ (Nat.le_of_ble_eq_true rfl) ⟨by decide, by decide⟩ (fun r hc_ hq hk_ => ?_)
  obtain ⟨rfl, rfl⟩ := hq
  rw [hx_byt n hn]
  refine ax_callV (n := 1) G (ct_Pi_put l bs (hx n) zp f hf hb (hx_lt hn)) d_Pi_putDigit_10 rfl ⟨rfl, rfl, trivial⟩ rfl rfl rfl kc_Pi_put ⟨k_Pi_32, ki_Pi_put, ks_Pi_put, kk_Pi⟩ (by decide +kernel) rfl ⟨by decide, by decide⟩ (Nat.le_of_ble_eq_true rfl) ⟨by decide, by decide⟩ (fun r hc_ hq hk_ => ?_)
  obtain ⟨rfl, f2, rfl, hf2⟩ := hq
  exact ax_vret G hr E d_Pi_putDigit_13 rfl ⟨rfl, f2, rfl, hf2⟩
set_option maxRecDepth 20000 in
set_option maxHeartbeats 1000000 in
theorem ct_Pi_withoutLastDigit (l : Launch) (U b : Nat) (hU : U < 2 ^ 64) (hb : b = 8 ∨ b = 10 ∨ b = 16) : ax_CT l y_Pi_withoutLastDigit c_Pi_withoutLastDigit 3 (some .long) 0 [.long (uw U), .int (nI b)] [] (fun r h => r = some (.long (uw (U / b))) ∧ h = []) := by
  refine ax_ofV (by decide) (Nat.le_of_ble_eq_true rfl) ?_
  intro p e s m args below meth c D cid ad A Qc G hr E
  rcases hb with rfl | rfl | rfl
  · refine ax_iload_n G d_Pi_withoutLastDigit_0 rfl rfl ?_
    refine ax_bipush (v := 8) G d_Pi_withoutLastDigit_1 (by decide) ?_
    refine ax_icmp_ne (tgt := 10) G d_Pi_withoutLastDigit_3 (by decide) (fun c_3 => ?_) (fun c_3 => ?_)
    · exact absurd rfl c_3
    · refine ax_lload_n G d_Pi_withoutLastDigit_6 rfl rfl ?_
      refine ax_iconst (v := 3) G d_Pi_withoutLastDigit_7 (by decide) ?_
      refine ax_lushr G d_Pi_withoutLastDigit_8 ?_
      rw [uw_ush U 3 hU _ (by decide)]
      exact ax_lret G hr E d_Pi_withoutLastDigit_9 rfl ⟨rfl, rfl⟩
  · refine ax_iload_n G d_Pi_withoutLastDigit_0 rfl rfl ?_
    refine ax_bipush (v := 8) G d_Pi_withoutLastDigit_1 (by decide) ?_
    refine ax_icmp_ne (tgt := 10) G d_Pi_withoutLastDigit_3 (by decide) (fun c_3 => ?_) (fun c_3 => ?_)
    · refine ax_iload_n G d_Pi_withoutLastDigit_10 rfl rfl ?_
      refine ax_bipush (v := 16) G d_Pi_withoutLastDigit_11 (by decide) ?_
      refine ax_icmp_ne (tgt := 20) G d_Pi_withoutLastDigit_13 (by decide) (fun c_13 => ?_) (fun c_13 => ?_)
      · refine ax_lload_n G d_Pi_withoutLastDigit_20 rfl rfl ?_
        refine ax_iconst (v := 1) G d_Pi_withoutLastDigit_21 (by decide) ?_
        refine ax_lushr G d_Pi_withoutLastDigit_22 ?_
        rw [uw_ush U 1 hU _ (by decide)]
        refine ax_ldc2 G d_Pi_withoutLastDigit_23 k_Pi_51 ?_
        refine ax_ldiv G d_Pi_withoutLastDigit_26 (by decide) ?_
        exact ax_lret G hr E d_Pi_withoutLastDigit_27 rfl ⟨by rw [uw_lN, show (5 : Int64) = lN 5 from rfl, pk_lDiv (by omega) (by decide) (by decide), Nat.div_div_eq_div_mul]; rfl, rfl⟩
      · exact absurd c_13 (by decide)
    · exact absurd c_3 (by decide)
  · refine ax_iload_n G d_Pi_withoutLastDigit_0 rfl rfl ?_
    refine ax_bipush (v := 8) G d_Pi_withoutLastDigit_1 (by decide) ?_
    refine ax_icmp_ne (tgt := 10) G d_Pi_withoutLastDigit_3 (by decide) (fun c_3 => ?_) (fun c_3 => ?_)
    · refine ax_iload_n G d_Pi_withoutLastDigit_10 rfl rfl ?_
      refine ax_bipush (v := 16) G d_Pi_withoutLastDigit_11 (by decide) ?_
      refine ax_icmp_ne (tgt := 20) G d_Pi_withoutLastDigit_13 (by decide) (fun c_13 => ?_) (fun c_13 => ?_)
      · exact absurd rfl c_13
      · refine ax_lload_n G d_Pi_withoutLastDigit_16 rfl rfl ?_
        refine ax_iconst (v := 4) G d_Pi_withoutLastDigit_17 (by decide) ?_
        refine ax_lushr G d_Pi_withoutLastDigit_18 ?_
        rw [uw_ush U 4 hU _ (by decide)]
        exact ax_lret G hr E d_Pi_withoutLastDigit_19 rfl ⟨rfl, rfl⟩
    · exact absurd c_3 (by decide)
set_option maxRecDepth 20000 in
set_option maxHeartbeats 1000000 in
theorem ct_Pi_digitsOf (l : Launch) (U b : Nat) (hU : U < 2 ^ 64) (hb : b = 8 ∨ b = 10 ∨ b = 16) : ax_CT l y_Pi_digitsOf c_Pi_digitsOf 6 (some .int) 1 [.long (uw U), .int (nI b)] [] (fun r h => r = some (.int (nI (dgf b 22 U))) ∧ h = []) := by
  refine ax_ofV (by decide) (Nat.le_of_ble_eq_true rfl) ?_
  intro p e s m args below meth c D cid ad A Qc G hr E
  have loop : ∀ (k i W : Nat), k + i = 22 → W < 2 ^ 64 → i + dgf b k W = dgf b 22 U → ax_V p l e (ax_rm 1) s m args below meth c D cid ad A 6 0 0 (MQ below Qc args s 0 0 A) 5 [(0, .long (uw U)), (2, .int (nI b)), (3, .long (uw W)), (5, .int (nI i))] [] [] := by
    intro k
    induction k with
    | zero =>
      intro i W hi hW he
      refine ax_iload G d_Pi_digitsOf_5 rfl ?_
      refine ax_bipush (v := 22) G d_Pi_digitsOf_7 (by decide) ?_
      refine ax_icmp_ge (tgt := 33) G d_Pi_digitsOf_9 (by decide) (fun c_9 => ?_) (fun c_9 => ?_)
      · refine ax_bipush (v := 22) G d_Pi_digitsOf_33 (by decide) ?_
        exact ax_iret G hr E d_Pi_digitsOf_35 rfl ⟨by rw [← he, show i = 22 by omega]; rfl, rfl⟩
      · exact absurd (nI_le (a := 22) (by omega) (by omega)) c_9
    | succ k ih =>
      intro i W hi hW he
      refine ax_iload G d_Pi_digitsOf_5 rfl ?_
      refine ax_bipush (v := 22) G d_Pi_digitsOf_7 (by decide) ?_
      refine ax_icmp_ge (tgt := 33) G d_Pi_digitsOf_9 (by decide) (fun c_9 => ?_) (fun c_9 => ?_)
      · exact absurd c_9 (nI_ge (b := 22) (by omega) (by decide))
      · have hz : (lg_cmp (uw W) 0 = 0) ↔ W = 0 := by rw [lg_cmp_eq, ul_0, ul_uw hW]
        rw [dgf_s] at he
        refine ax_lload_n G d_Pi_digitsOf_12 rfl rfl ?_
        refine ax_lconst (v := 0) G d_Pi_digitsOf_13 (by decide) ?_
        refine ax_lcmp G d_Pi_digitsOf_14 ?_
        refine ax_if_ne (tgt := 21) G d_Pi_digitsOf_15 (by decide) (fun c_15 => ?_) (fun c_15 => ?_)
        · rw [if_neg (fun q => c_15 (hz.mpr q))] at he
          refine ax_lload_n G d_Pi_digitsOf_21 rfl rfl ?_
          refine ax_iload_n G d_Pi_digitsOf_22 rfl rfl ?_
          refine ax_callS (n := 2) G (ct_Pi_withoutLastDigit l W b hW hb) d_Pi_digitsOf_23 rfl trivial rfl kc_Pi_withoutLastDigit ⟨k_Pi_47, kt_Pi_withoutLastDigit, kk_Pi⟩ (by decide +kernel) rfl ⟨by decide, by decide⟩ (Nat.le_of_ble_eq_true rfl) ⟨by decide, by decide⟩ (fun r hc_ hq hk_ => ?_)
          obtain ⟨rfl, rfl⟩ := hq
          refine ax_lstore_n G d_Pi_digitsOf_26 rfl (by decide) ?_
          refine ax_iincZ (z := 1) G d_Pi_digitsOf_27 rfl (by decide) (by decide) ?_
          refine ax_goto (tgt := 5) G d_Pi_digitsOf_30 (by decide) ?_
          rw [nI_1]
          exact ih (i + 1) (W / b) (by omega) (Nat.lt_of_le_of_lt (Nat.div_le_self _ _) hW) (by omega)
        · rw [if_pos (hz.mp c_15)] at he
          refine ax_iload G d_Pi_digitsOf_18 rfl ?_
          exact ax_iret G hr E d_Pi_digitsOf_20 rfl ⟨by rw [← he]; rfl, rfl⟩
  refine ax_lload_n G d_Pi_digitsOf_0 rfl rfl ?_
  refine ax_lstore_n G d_Pi_digitsOf_1 rfl (by decide) ?_
  refine ax_iconst (v := 0) G d_Pi_digitsOf_2 (by decide) ?_
  refine ax_istore G d_Pi_digitsOf_3 (by decide) ?_
  exact loop 22 0 U rfl hU (Nat.zero_add _)
set_option maxRecDepth 20000 in
set_option maxHeartbeats 1000000 in
theorem ct_Pi_putWhole (l : Launch) (bs : List Nat) (U b n : Nat) (zp : Int32) (f : Nat → Int32) (hf : pi_is f bs) (hU : U < 2 ^ 64) (hb : b = 8 ∨ b = 10 ∨ b = 16) (hn : bs.length + n ≤ 520) : ax_CT l y_Pi_putWhole c_Pi_putWhole 11 none 4 [.ref 7, .long (uw U), .int (nI b), .int (nI n)] (pc_Pi (nI bs.length) zp f) (fun r h => r = none ∧ pi_P (bs ++ wl U b n) zp h) := by
  refine ax_ofV (by decide) (Nat.le_of_ble_eq_true rfl) ?_
  intro p e s m args below meth c D cid ad A Qc G hr E
  have hb0 : 0 < b ∧ b ≤ 16 := by rcases hb with h | h | h <;> omega
  have loop2 : ∀ (j t : Nat) (f' : Nat → Int32), j + t = n → (∀ q, q < bs.length → f' q = f q) → (∀ q, n ≤ q + t → q < n → f' (bs.length + q) = nI (hx (U / b ^ (n - 1 - q) % b))) → ax_V p l e (ax_rm 4) s m args below meth c D cid ad A 11 0 0 (MQ below Qc args s 0 0 A) 39 [(0, .ref 7), (1, .long (uw U)), (3, .int (nI b)), (4, .int (nI n)), (5, .int (nI bs.length)), (6, .long (uw (U / b ^ t))), (8, .int (nI (bs.length + j) - 1))] [] (pc_Pi (nI (bs.length + n)) zp f') := by
    intro j
    induction j with
    | zero =>
      intro t f' ht h1 h2
      refine ax_iload G d_Pi_putWhole_39 rfl ?_
      refine ax_iload G d_Pi_putWhole_41 rfl ?_
      refine ax_icmp_lt (tgt := 89) G d_Pi_putWhole_43 (by decide) (fun c_43 => ?_) (fun c_43 => ?_)
      · refine ax_vret G hr E d_Pi_putWhole_89 rfl ⟨rfl, f', by rw [List.length_append, wl_len], pi_app (fun i hi => by rw [h1 i hi]; exact hf i hi) (fun i hi => ?_)⟩
        rw [wl_len] at hi
        rw [wl_at _ _ _ _ hi]
        exact ⟨h2 i (by omega) hi, hx_lt (Nat.lt_of_lt_of_le (Nat.mod_lt _ hb0.1) hb0.2)⟩
      · refine absurd ?_ c_43
        rw [Nat.add_zero, Int32.lt_iff_toInt_lt, show nI bs.length - 1 = nI bs.length - nI 1 from rfl, pk_sub_toInt (by omega) (by decide), nI_toInt (by omega)]
        omega
    | succ j ih =>
      intro t f' ht h1 h2
      have hW : U / b ^ t < 2 ^ 64 := Nat.lt_of_le_of_lt (Nat.div_le_self _ _) hU
      rw [show bs.length + (j + 1) = (bs.length + j) + 1 from rfl, nI_pred]
      refine ax_iload G d_Pi_putWhole_39 rfl ?_
      refine ax_iload G d_Pi_putWhole_41 rfl ?_
      refine ax_icmp_lt (tgt := 89) G d_Pi_putWhole_43 (by decide) (fun c_43 => ?_) (fun c_43 => ?_)
      · exact absurd c_43 (nI_nlt (by omega) (by omega))
      · refine ax_lload G d_Pi_putWhole_46 rfl ?_
        refine ax_iload_n G d_Pi_putWhole_48 rfl rfl ?_
        refine ax_callS (n := 2) G (ct_Pi_withoutLastDigit l (U / b ^ t) b hW hb) d_Pi_putWhole_49 rfl trivial rfl kc_Pi_withoutLastDigit ⟨k_Pi_47, kt_Pi_withoutLastDigit, kk_Pi⟩ (by decide +kernel) rfl ⟨by decide, by decide⟩ (Nat.le_of_ble_eq_true rfl) ⟨by decide, by decide⟩ (fun r hc_ hq hk_ => ?_)
        obtain ⟨rfl, rfl⟩ := hq
        refine ax_lstore G d_Pi_putWhole_52 (by decide) ?_
        refine ax_aload_n G d_Pi_putWhole_54 rfl rfl ?_
        refine ax_get (ci := 3) (j := 0) G d_Pi_putWhole_55 rfl rfl (by decide) k_Pi_11 rfl ?_
        refine ax_iload G d_Pi_putWhole_58 rfl ?_
        refine ax_ldcS (tx := "0123456789abcdef") (t := 1) G d_Pi_putWhole_60 (by decide +kernel) ?_
        refine ax_lload G d_Pi_putWhole_62 rfl ?_
        refine ax_iload_n G d_Pi_putWhole_64 rfl rfl ?_
        refine ax_i2l G d_Pi_putWhole_65 ?_
        refine ax_lload G d_Pi_putWhole_66 rfl ?_
        refine ax_lmul G d_Pi_putWhole_68 ?_
        refine ax_lsub G d_Pi_putWhole_69 ?_
        refine ax_l2i G d_Pi_putWhole_70 ?_
        refine ax_bipush (v := 15) G d_Pi_putWhole_71 (by decide) ?_
        refine ax_iand G d_Pi_putWhole_73 ?_
        have e1 : ((uw (U / b ^ t) - (nI b).toInt64 * uw (U / b ^ t / b)).toInt32 &&& 15) = nI (U / b ^ t % b) := by
          rw [nI_l (by omega), uw_lN, uw_lN, lN_mul, lN_sub (Nat.mul_div_le _ _), lN_i, pk_andN (k := 4) ?_ (by decide)]
          · have := Nat.mod_lt (U / b ^ t) hb0.1
            have e2 : U / b ^ t - b * (U / b ^ t / b) = U / b ^ t % b := by
              have := Nat.div_add_mod (U / b ^ t) b
              omega
            rw [e2, Nat.mod_eq_of_lt (by omega)]
          · have := Nat.mod_lt (U / b ^ t) hb0.1
            have := Nat.div_add_mod (U / b ^ t) b
            omega
        rw [e1]
        have hd : U / b ^ t % b < 16 := Nat.lt_of_lt_of_le (Nat.mod_lt _ hb0.1) hb0.2
        refine ax_callK (n := 1) G (by decide) (ct_St_charAt l 1 (U / b ^ t % b) (by decide) hd) d_Pi_putWhole_74 rfl trivial rfl kc_St_charAt ⟨k_Pi_28, ki_St_charAt, ks_St_charAt, kk_St⟩ (by decide +kernel) rfl ⟨by decide, by decide⟩ (Nat.le_of_ble_eq_true rfl) ⟨by decide, by decide⟩ (fun r hc_ hq hk_ => ?_)
        obtain ⟨rfl, rfl⟩ := hq
        rw [hx_byt _ hd]
        refine ax_i2b G d_Pi_putWhole_77 ?_
        refine ax_bast G d_Pi_putWhole_78 rfl (vp_in_nI (by omega) (by omega)) ?_
        rw [nI_clamp (by omega)]
        refine ax_lload G d_Pi_putWhole_79 rfl ?_
        refine ax_lstore G d_Pi_putWhole_81 (by decide) ?_
        refine ax_iincZ (z := (-1)) G d_Pi_putWhole_83 rfl (by decide) (by decide) ?_
        refine ax_goto (tgt := 39) G d_Pi_putWhole_86 (by decide) ?_
        rw [Nat.div_div_eq_div_mul, ← Nat.pow_succ, addm1]
        refine ax_less (ih (t + 1) _ (by omega) (fun q hq => ?_) (fun q hq1 hq2 => ?_)) ⟨rfl, rfl, rfl, rfl, rfl, rfl, rfl, trivial⟩
        · rw [pk_un (by omega)]; exact h1 q hq
        · by_cases hqj : q = j
          · subst hqj
            rw [pk_us, pk_vb, by_nI (hx_lt hd), show n - 1 - q = t by omega]
          · rw [pk_un (by omega)]
            exact h2 q (by omega) hq2
  have loop1 : ∀ (j i : Nat) (f' : Nat → Int32), j + i = n → pi_is f' (bs ++ List.replicate i 48) → ax_V p l e (ax_rm 4) s m args below meth c D cid ad A 11 0 0 (MQ below Qc args s 0 0 A) 9 [(0, .ref 7), (1, .long (uw U)), (3, .int (nI b)), (4, .int (nI n)), (5, .int (nI bs.length)), (6, .int (nI i))] [] (pc_Pi (nI (bs ++ List.replicate i 48).length) zp f') := by
    intro j
    induction j with
    | zero =>
      intro i f' hi hf'
      have e : i = n := by omega
      subst e
      rw [List.length_append, List.length_replicate]
      refine ax_iload G d_Pi_putWhole_9 rfl ?_
      refine ax_iload G d_Pi_putWhole_11 rfl ?_
      refine ax_icmp_ge (tgt := 28) G d_Pi_putWhole_13 (by decide) (fun c_13 => ?_) (fun c_13 => ?_)
      · refine ax_lload_n G d_Pi_putWhole_28 rfl rfl ?_
        refine ax_lstore G d_Pi_putWhole_29 (by decide) ?_
        refine ax_aload_n G d_Pi_putWhole_31 rfl rfl ?_
        refine ax_get (ci := 3) (j := 1) G d_Pi_putWhole_32 rfl rfl (by decide) k_Pi_15 rfl ?_
        refine ax_iconst (v := 1) G d_Pi_putWhole_35 (by decide) ?_
        refine ax_isub G d_Pi_putWhole_36 ?_
        refine ax_istore G d_Pi_putWhole_37 (by decide) ?_
        have := loop2 i 0 f' (by omega) (fun q hq => by rw [(pi_pre hf' q hq).1, (hf q hq).1]) (fun q h1 h2 => by omega)
        rw [Nat.pow_zero, Nat.div_one] at this
        exact this
      · exact absurd (nI_le (Nat.le_refl _) (by omega)) c_13
    | succ j ih =>
      intro i f' hi hf'
      have hlen : (bs ++ List.replicate i 48).length = bs.length + i := by rw [List.length_append, List.length_replicate]
      refine ax_iload G d_Pi_putWhole_9 rfl ?_
      refine ax_iload G d_Pi_putWhole_11 rfl ?_
      refine ax_icmp_ge (tgt := 28) G d_Pi_putWhole_13 (by decide) (fun c_13 => ?_) (fun c_13 => ?_)
      · exact absurd c_13 (nI_ge (by omega) (by omega))
      · refine ax_aload_n G d_Pi_putWhole_16 rfl rfl ?_
        refine ax_bipush (v := 48) G d_Pi_putWhole_17 (by decide) ?_
        refine ax_callV (n := 1) G (ct_Pi_put l (bs ++ List.replicate i 48) 48 zp f' hf' (by omega) (by decide)) d_Pi_putWhole_19 rfl ⟨rfl, rfl, trivial⟩ rfl rfl rfl kc_Pi_put ⟨k_Pi_32, ki_Pi_put, ks_Pi_put, kk_Pi⟩ (by decide +kernel) rfl ⟨by decide, by decide⟩ (Nat.le_of_ble_eq_true rfl) ⟨by decide, by decide⟩ (fun r hc_ hq hk_ => ?_)
        obtain ⟨rfl, f2, rfl, hf2⟩ := hq
        refine ax_iincZ (z := 1) G d_Pi_putWhole_22 rfl (by decide) (by decide) ?_
        refine ax_goto (tgt := 9) G d_Pi_putWhole_25 (by decide) ?_
        rw [nI_1]
        have e3 : bs ++ List.replicate i 48 ++ [48] = bs ++ List.replicate (i + 1) 48 := by rw [List.append_assoc, List.replicate_succ']
        rw [e3] at hf2
        have := ih (i + 1) f2 (by omega) hf2
        rw [← e3] at this
        exact this
  refine ax_aload_n G d_Pi_putWhole_0 rfl rfl ?_
  refine ax_get (ci := 3) (j := 1) G d_Pi_putWhole_1 rfl rfl (by decide) k_Pi_15 rfl ?_
  refine ax_istore G d_Pi_putWhole_4 (by decide) ?_
  refine ax_iconst (v := 0) G d_Pi_putWhole_6 (by decide) ?_
  refine ax_istore G d_Pi_putWhole_7 (by decide) ?_
  have := loop1 n 0 f rfl (by rw [List.replicate_zero, List.append_nil]; exact hf)
  rw [List.replicate_zero, List.append_nil] at this
  exact this
set_option maxRecDepth 20000 in
set_option maxHeartbeats 1000000 in
theorem ct_Pi_becomeGreat (l : Launch) (bs : List Nat) (zp : Int32) (f : Nat → Int32) (hf : pi_is f bs) (hb : bs.length ≤ 520) : ax_CT l y_Pi_becomeGreat c_Pi_becomeGreat 2 none 0 [.ref 7] (pc_Pi (nI bs.length) zp f) (fun r h => r = none ∧ pi_P (bs.map up) zp h) := by
  refine ax_ofV (by decide) (Nat.le_of_ble_eq_true rfl) ?_
  intro p e s m args below meth c D cid ad A Qc G hr E
  have loop : ∀ (j i : Nat) (f' : Nat → Int32), j + i = bs.length → (∀ q, q < i → f' q = nI (up (bs.getD q 0))) → (∀ q, i ≤ q → f' q = f q) → ax_V p l e (ax_rm 0) s m args below meth c D cid ad A 2 0 0 (MQ below Qc args s 0 0 A) 2 [(0, .ref 7), (1, .int (nI i))] [] (pc_Pi (nI bs.length) zp f') := by
    intro j
    induction j with
    | zero =>
      intro i f' hi h1 h2
      refine ax_iload_n G d_Pi_becomeGreat_2 rfl rfl ?_
      refine ax_aload_n G d_Pi_becomeGreat_3 rfl rfl ?_
      refine ax_get (ci := 3) (j := 1) G d_Pi_becomeGreat_4 rfl rfl (by decide) k_Pi_15 rfl ?_
      refine ax_icmp_ge (tgt := 57) G d_Pi_becomeGreat_7 (by decide) (fun c_7 => ?_) (fun c_7 => ?_)
      · refine ax_vret G hr E d_Pi_becomeGreat_57 rfl ⟨rfl, f', by rw [List.length_map], fun q hq => ?_⟩
        rw [List.length_map] at hq
        have e1 : (bs.map up).getD q 0 = up (bs.getD q 0) := by
          rw [List.getD_eq_getElem?_getD, List.getD_eq_getElem?_getD, List.getElem?_map, List.getElem?_eq_getElem hq]; rfl
        rw [e1]
        refine ⟨h1 q (by omega), ?_⟩
        have := (hf q hq).2
        unfold up; split <;> omega
      · exact absurd (nI_le (by omega) (by omega)) c_7
    | succ j ih =>
      intro i f' hi h1 h2
      have hi2 : i < bs.length := by omega
      obtain ⟨e1, e2⟩ := hf i hi2
      have step : ∀ f2 : Nat → Int32, f2 i = nI (up (bs.getD i 0)) → (∀ q, q ≠ i → f2 q = f' q) → ax_V p l e (ax_rm 0) s m args below meth c D cid ad A 2 0 0 (MQ below Qc args s 0 0 A) 51 [(0, .ref 7), (1, .int (nI i))] [] (pc_Pi (nI bs.length) zp f2) := by
        intro f2 g1 g2
        refine ax_iincZ (z := 1) G d_Pi_becomeGreat_51 rfl (by decide) (by decide) ?_
        refine ax_goto (tgt := 2) G d_Pi_becomeGreat_54 (by decide) ?_
        rw [nI_1]
        refine ih (i + 1) f2 (by omega) (fun q hq => ?_) (fun q hq => ?_)
        · by_cases hqi : q = i
          · rw [hqi]; exact g1
          · rw [g2 q hqi]; exact h1 q (by omega)
        · rw [g2 q (by omega)]; exact h2 q (by omega)
      have eq1 : f' i = nI (bs.getD i 0) := by rw [h2 i (Nat.le_refl _)]; exact e1
      refine ax_iload_n G d_Pi_becomeGreat_2 rfl rfl ?_
      refine ax_aload_n G d_Pi_becomeGreat_3 rfl rfl ?_
      refine ax_get (ci := 3) (j := 1) G d_Pi_becomeGreat_4 rfl rfl (by decide) k_Pi_15 rfl ?_
      refine ax_icmp_ge (tgt := 57) G d_Pi_becomeGreat_7 (by decide) (fun c_7 => ?_) (fun c_7 => ?_)
      · exact absurd c_7 (nI_ge hi2 (by omega))
      · refine ax_aload_n G d_Pi_becomeGreat_10 rfl rfl ?_
        refine ax_get (ci := 3) (j := 0) G d_Pi_becomeGreat_11 rfl rfl (by decide) k_Pi_11 rfl ?_
        refine ax_iload_n G d_Pi_becomeGreat_14 rfl rfl ?_
        refine ax_bald G d_Pi_becomeGreat_15 rfl (vp_in_nI (by omega) (by omega)) ?_
        rw [nI_clamp (by omega), eq1]
        refine ax_bipush (v := 97) G d_Pi_becomeGreat_16 (by decide) ?_
        refine ax_icmp_lt (tgt := 51) G d_Pi_becomeGreat_18 (by decide) (fun c_18 => ?_) (fun c_18 => ?_)
        · have hlt : bs.getD i 0 < 97 := (nI_ltI (b := 97) (by omega) (by decide)).mp c_18
          exact step f' (by rw [eq1]; unfold up; rw [if_neg (by omega)]) (fun _ _ => rfl)
        · have hge : ¬ bs.getD i 0 < 97 := fun q => c_18 ((nI_ltI (b := 97) (by omega) (by decide)).mpr q)
          refine ax_aload_n G d_Pi_becomeGreat_21 rfl rfl ?_
          refine ax_get (ci := 3) (j := 0) G d_Pi_becomeGreat_22 rfl rfl (by decide) k_Pi_11 rfl ?_
          refine ax_iload_n G d_Pi_becomeGreat_25 rfl rfl ?_
          refine ax_bald G d_Pi_becomeGreat_26 rfl (vp_in_nI (by omega) (by omega)) ?_
          rw [nI_clamp (by omega), eq1]
          refine ax_bipush (v := 122) G d_Pi_becomeGreat_27 (by decide) ?_
          refine ax_icmp_gt (tgt := 51) G d_Pi_becomeGreat_29 (by decide) (fun c_29 => ?_) (fun c_29 => ?_)
          · have hgt : 122 < bs.getD i 0 := (nI_ltI (a := 122) (by decide) (by omega)).mp c_29
            exact step f' (by rw [eq1]; unfold up; rw [if_neg (by omega)]) (fun _ _ => rfl)
          · have hle : ¬ 122 < bs.getD i 0 := fun q => c_29 ((nI_ltI (a := 122) (by decide) (by omega)).mpr q)
            refine ax_aload_n G d_Pi_becomeGreat_32 rfl rfl ?_
            refine ax_get (ci := 3) (j := 0) G d_Pi_becomeGreat_33 rfl rfl (by decide) k_Pi_11 rfl ?_
            refine ax_iload_n G d_Pi_becomeGreat_36 rfl rfl ?_
            refine ax_aload_n G d_Pi_becomeGreat_37 rfl rfl ?_
            refine ax_get (ci := 3) (j := 0) G d_Pi_becomeGreat_38 rfl rfl (by decide) k_Pi_11 rfl ?_
            refine ax_iload_n G d_Pi_becomeGreat_41 rfl rfl ?_
            refine ax_bald G d_Pi_becomeGreat_42 rfl (vp_in_nI (by omega) (by omega)) ?_
            rw [nI_clamp (by omega), eq1]
            refine ax_bipush (v := 97) G d_Pi_becomeGreat_43 (by decide) ?_
            refine ax_isub G d_Pi_becomeGreat_45 ?_
            refine ax_bipush (v := 65) G d_Pi_becomeGreat_46 (by decide) ?_
            refine ax_iadd G d_Pi_becomeGreat_48 ?_
            have e3 : nI (bs.getD i 0) - 97 + 65 = nI (up (bs.getD i 0)) := by
              unfold up
              rw [if_pos (by omega), show (97 : Int32) = nI 97 from rfl, pk_sub (by omega), show (65 : Int32) = nI 65 from rfl, nI_add]
              congr 1
              omega
            rw [e3]
            have hu : up (bs.getD i 0) < 128 := by unfold up; split <;> omega
            refine ax_i2b G d_Pi_becomeGreat_49 ?_
            refine ax_bast G d_Pi_becomeGreat_50 rfl (vp_in_nI (by omega) (by omega)) ?_
            rw [nI_clamp (by omega)]
            exact step _ (by rw [pk_us, pk_vb, by_nI hu]) (fun q hq => by rw [pk_un hq])
  refine ax_iconst (v := 0) G d_Pi_becomeGreat_0 (by decide) ?_
  refine ax_istore_n G d_Pi_becomeGreat_1 rfl (by decide) ?_
  exact loop bs.length 0 f rfl (fun q hq => absurd hq (Nat.not_lt_zero q)) (fun _ _ => rfl)
end
section
/-! pure rows: how a directive is read -/
section AXL
variable {p : Program} {l : Launch} {e : Env} {R : Room} {s : State} {m : MethodId} {args : Array Value} {below : List Frame} {meth : Method} {c : Code} {cells slots : Nat} {Q : State → Prop}
variable {D : va_G} {cid : Nat → ClassId} {ad : Nat → Nat} {A : Nat → Prop} {nL : Nat} {Ts : List Cond} {own : String} {cc : ByteArray}
variable {pc : Nat} {lv : List (Nat × Value)} {st : List Value} {h : ax_H}
theorem ax_lookup (G : ax_G p s m args meth c Ts own cc nL D cid ad A) {dflt : Int} {ps : Array (Int × Int)} {len : Nat} {x : Int32} {off : Int} {tgt : Nat} (d : decode cc pc = .ok (.lookupswitch dflt ps, len)) (hp : (ps.toList.zip (ps.toList.drop 1)).all (fun (a, next) => a.1 < next.1) = true) (ho : Op.lookupswitch.offset ps.toList dflt x.toInt = off) (ht : (pc : Int) + off = (tgt : Int)) (k : ax_V p l e R s m args below meth c D cid ad A nL cells slots Q tgt lv st h) : ax_V p l e R s m args below meth c D cid ad A nL cells slots Q pc lv (.int x :: st) h :=
  fun H locs ls hP hD hS hl => lv_lookup G.1 G.2.1 d hp ho ht (k H locs ls hP hD hS hl)
theorem ax_tabIn (G : ax_G p s m args meth c Ts own cc nL D cid ad A) {dflt lo hi : Int} {offs : Array Int} {len : Nat} {x : Int32} {off : Int} {tgt : Nat} (d : decode cc pc = .ok (.tableswitch dflt lo hi offs, len)) (h1 : ¬ x.toInt < lo) (h2 : ¬ hi < x.toInt) (ho : offs[(x.toInt - lo).toNat]? = some off) (ht : (pc : Int) + off = (tgt : Int)) (k : ax_V p l e R s m args below meth c D cid ad A nL cells slots Q tgt lv st h) : ax_V p l e R s m args below meth c D cid ad A nL cells slots Q pc lv (.int x :: st) h :=
  fun H locs ls hP hD hS hl => lv_tableIn G.1 G.2.1 d h1 h2 ho ht (k H locs ls hP hD hS hl)
theorem ax_tabOut (G : ax_G p s m args meth c Ts own cc nL D cid ad A) {dflt lo hi : Int} {offs : Array Int} {len : Nat} {x : Int32} {tgt : Nat} (d : decode cc pc = .ok (.tableswitch dflt lo hi offs, len)) (h1 : x.toInt < lo ∨ hi < x.toInt) (ht : (pc : Int) + dflt = (tgt : Int)) (k : ax_V p l e R s m args below meth c D cid ad A nL cells slots Q tgt lv st h) : ax_V p l e R s m args below meth c D cid ad A nL cells slots Q pc lv (.int x :: st) h :=
  fun H locs ls hP hD hS hl => lv_tableOut G.1 G.2.1 d h1 ht (k H locs ls hP hD hS hl)
end AXL
/-- the letter at a place, 0 where the format has ended -/
def lt (c : Nat → Nat) (n i : Nat) : Nat := if i < n then c i else 0
theorem lt_lt {f : Nat → Int32} {n : Nat} {c : Nat → Nat} (hf : fo_is f n c) (i : Nat) : lt c n i < 256 := by
  unfold lt
  split
  · rename_i h; exact (hf i h).2
  · decide
def flg (L : Nat → Nat) : Nat → Nat → Bool → Bool → Bool → Bool → Bool → Bool × Bool × Bool × Bool × Bool × Nat
  | 0, i, l, p, b, h, z => (l, p, b, h, z, i)
  | k + 1, i, l, p, b, h, z => if L i = 45 then flg L k (i + 1) true p b h z else if L i = 43 then flg L k (i + 1) l true b h z else if L i = 32 then flg L k (i + 1) l p true h z else if L i = 35 then flg L k (i + 1) l p b true z else if L i = 48 then flg L k (i + 1) l p b h true else (l, p, b, h, z, i)
theorem flg_s (L : Nat → Nat) (k i : Nat) (l p b h z : Bool) : flg L (k + 1) i l p b h z = if L i = 45 then flg L k (i + 1) true p b h z else if L i = 43 then flg L k (i + 1) l true b h z else if L i = 32 then flg L k (i + 1) l p true h z else if L i = 35 then flg L k (i + 1) l p b true z else if L i = 48 then flg L k (i + 1) l p b h true else (l, p, b, h, z, i) := rfl
theorem flg_le (L : Nat → Nat) : ∀ (k i : Nat) (l p b h z : Bool), i ≤ (flg L k i l p b h z).2.2.2.2.2 ∧ (flg L k i l p b h z).2.2.2.2.2 ≤ i + k
  | 0, i, l, p, b, h, z => ⟨Nat.le_refl _, Nat.le_refl _⟩
  | k + 1, i, l, p, b, h, z => by
    rw [flg_s]
    split
    · have := flg_le L k (i + 1) true p b h z; omega
    split
    · have := flg_le L k (i + 1) l true b h z; omega
    split
    · have := flg_le L k (i + 1) l p true h z; omega
    split
    · have := flg_le L k (i + 1) l p b true z; omega
    split
    · have := flg_le L k (i + 1) l p b h true; omega
    · exact ⟨Nat.le_refl _, by show i ≤ _; omega⟩
/-- up to k digits from i on -/
def dgt (L : Nat → Nat) : Nat → Nat → Nat → Nat × Nat
  | 0, i, v => (v, i)
  | k + 1, i, v => if 48 ≤ L i ∧ L i ≤ 57 then dgt L k (i + 1) (10 * v + (L i - 48)) else (v, i)
theorem dgt_s (L : Nat → Nat) (k i v : Nat) : dgt L (k + 1) i v = if 48 ≤ L i ∧ L i ≤ 57 then dgt L k (i + 1) (10 * v + (L i - 48)) else (v, i) := rfl
theorem dgt_le (L : Nat → Nat) : ∀ (k i v : Nat), i ≤ (dgt L k i v).2 ∧ (dgt L k i v).2 ≤ i + k ∧ (dgt L k i v).1 < (v + 1) * 10 ^ k
  | 0, i, v => ⟨Nat.le_refl _, Nat.le_refl _, by show v < _; omega⟩
  | k + 1, i, v => by
    rw [dgt_s]
    split
    · have := dgt_le L k (i + 1) (10 * v + (L i - 48))
      refine ⟨by omega, by omega, Nat.lt_of_lt_of_le this.2.2 ?_⟩
      rw [Nat.pow_succ, Nat.mul_comm (10 ^ k) 10, ← Nat.mul_assoc]
      exact Nat.mul_le_mul_right _ (by omega)
    · refine ⟨Nat.le_refl _, by show i ≤ _; omega, ?_⟩
      show v < _
      have : 0 < 10 ^ (k + 1) := Nat.pow_pos (by decide)
      exact Nat.lt_of_lt_of_le (Nat.lt_succ_self v) (Nat.le_mul_of_pos_right _ this)
def isK (x : Nat) : Bool := [100, 105, 117, 111, 120, 88, 99, 101, 69, 102, 70, 103, 71, 97, 65, 37].contains x
theorem ix_K : ∀ n, n < 256 → ((ixf (ax_byt.getD 0 []) (nI n).toInt8.toInt32 0 16 < 0) ↔ isK n = false) := by decide +kernel
def pw (L : Nat → Nat) (i : Nat) : Bool × Nat × Bool × Nat := if L i = 42 then (true, i + 1, true, 0) else if 200 < (dgt L 3 i 0).1 then (false, i, false, (dgt L 3 i 0).1) else (true, (dgt L 3 i 0).2, false, (dgt L 3 i 0).1)
theorem pw_le (L : Nat → Nat) (i : Nat) : i ≤ (pw L i).2.1 ∧ (pw L i).2.1 ≤ i + 3 := by
  unfold pw
  have := dgt_le L 3 i 0
  split
  · exact ⟨by show i ≤ i + 1; omega, by show i + 1 ≤ i + 3; omega⟩
  split
  · exact ⟨Nat.le_refl _, by show i ≤ i + 3; omega⟩
  · exact ⟨this.1, this.2.1⟩
def pp (L : Nat → Nat) (i : Nat) : Bool × Nat × Bool × Int32 := if L i = 46 then (if L (i + 1) = 42 then (true, i + 2, true, -1) else if 200 < (dgt L 3 (i + 1) 0).1 then (false, i + 1, false, nI (dgt L 3 (i + 1) 0).1) else (true, (dgt L 3 (i + 1) 0).2, false, nI (dgt L 3 (i + 1) 0).1)) else (true, i, false, -1)
theorem pp_le (L : Nat → Nat) (i : Nat) : i ≤ (pp L i).2.1 ∧ (pp L i).2.1 ≤ i + 4 := by
  unfold pp
  have := dgt_le L 3 (i + 1) 0
  split
  · split
    · exact ⟨by show i ≤ i + 2; omega, by show i + 2 ≤ i + 4; omega⟩
    split
    · exact ⟨by show i ≤ i + 1; omega, by show i + 1 ≤ i + 4; omega⟩
    · exact ⟨by show i ≤ (dgt L 3 (i + 1) 0).2; omega, by show (dgt L 3 (i + 1) 0).2 ≤ i + 4; omega⟩
  · exact ⟨Nat.le_refl _, by show i ≤ i + 4; omega⟩
def sml (x : Nat) : Nat := if 65 ≤ x ∧ x ≤ 90 then x + 32 else x
def grt (x : Nat) : Bool := decide (65 ≤ x ∧ x ≤ 90)
def rdF (L : Nat → Nat) (n i : Nat) : Bool × Bool × Bool × Bool × Bool × Nat := flg L (n - (i + 1)) (i + 1) false false false false false
def rdW (L : Nat → Nat) (n i : Nat) : Bool × Nat × Bool × Nat := pw L (rdF L n i).2.2.2.2.2
def rdP (L : Nat → Nat) (n i : Nat) : Bool × Nat × Bool × Int32 := pp L (rdW L n i).2.1
def rdOk (L : Nat → Nat) (n i : Nat) : Bool := (rdW L n i).1 && (rdP L n i).1 && isK (L (rdP L n i).2.1)
def rdAt (L : Nat → Nat) (n i : Nat) : Nat := if (rdW L n i).1 then (rdP L n i).2.1 else (rdW L n i).2.1
end
section
/-! FormatDesk$Directive -/
set_option maxRecDepth 20000 in
set_option maxHeartbeats 1000000 in
theorem ct_Di_forget (l : Launch) (lf pl bl ha ze : Bool) (w : Int32) (wt : Bool) (pr : Int32) (pt : Bool) (kd : Int32) (gr : Bool) (pa : Int32) : ax_CT l y_Di_forget c_Di_forget 1 none 0 [.ref 5] (pc_Di lf pl bl ha ze w wt pr pt kd gr pa) (fun r h => r = none ∧ h = pc_Di false false false false false 0 false (-1) false 37 false pa) := by
  refine ax_ofV (by decide) (Nat.le_of_ble_eq_true rfl) ?_
  intro p e s m args below meth c D cid ad A Qc G hr E
  refine ax_aload_n G d_Di_forget_0 rfl rfl ?_
  refine ax_iconst (v := 0) G d_Di_forget_1 (by decide) ?_
  refine ax_put (ci := 1) (j := 0) G d_Di_forget_2 rfl rfl (by decide) k_Di_32 rfl rfl rfl (Nat.le_of_ble_eq_true rfl) ?_
  refine ax_aload_n G d_Di_forget_5 rfl rfl ?_
  refine ax_iconst (v := 0) G d_Di_forget_6 (by decide) ?_
  refine ax_put (ci := 1) (j := 1) G d_Di_forget_7 rfl rfl (by decide) k_Di_36 rfl rfl rfl (Nat.le_of_ble_eq_true rfl) ?_
  refine ax_aload_n G d_Di_forget_10 rfl rfl ?_
  refine ax_iconst (v := 0) G d_Di_forget_11 (by decide) ?_
  refine ax_put (ci := 1) (j := 2) G d_Di_forget_12 rfl rfl (by decide) k_Di_39 rfl rfl rfl (Nat.le_of_ble_eq_true rfl) ?_
  refine ax_aload_n G d_Di_forget_15 rfl rfl ?_
  refine ax_iconst (v := 0) G d_Di_forget_16 (by decide) ?_
  refine ax_put (ci := 1) (j := 3) G d_Di_forget_17 rfl rfl (by decide) k_Di_42 rfl rfl rfl (Nat.le_of_ble_eq_true rfl) ?_
  refine ax_aload_n G d_Di_forget_20 rfl rfl ?_
  refine ax_iconst (v := 0) G d_Di_forget_21 (by decide) ?_
  refine ax_put (ci := 1) (j := 4) G d_Di_forget_22 rfl rfl (by decide) k_Di_45 rfl rfl rfl (Nat.le_of_ble_eq_true rfl) ?_
  refine ax_aload_n G d_Di_forget_25 rfl rfl ?_
  refine ax_iconst (v := 0) G d_Di_forget_26 (by decide) ?_
  refine ax_put (ci := 1) (j := 5) G d_Di_forget_27 rfl rfl (by decide) k_Di_48 rfl rfl rfl (Nat.le_of_ble_eq_true rfl) ?_
  refine ax_aload_n G d_Di_forget_30 rfl rfl ?_
  refine ax_iconst (v := 0) G d_Di_forget_31 (by decide) ?_
  refine ax_put (ci := 1) (j := 6) G d_Di_forget_32 rfl rfl (by decide) k_Di_51 rfl rfl rfl (Nat.le_of_ble_eq_true rfl) ?_
  refine ax_aload_n G d_Di_forget_35 rfl rfl ?_
  refine ax_iconst (v := (-1)) G d_Di_forget_36 (by decide) ?_
  refine ax_put (ci := 1) (j := 7) G d_Di_forget_37 rfl rfl (by decide) k_Di_54 rfl rfl rfl (Nat.le_of_ble_eq_true rfl) ?_
  refine ax_aload_n G d_Di_forget_40 rfl rfl ?_
  refine ax_iconst (v := 0) G d_Di_forget_41 (by decide) ?_
  refine ax_put (ci := 1) (j := 8) G d_Di_forget_42 rfl rfl (by decide) k_Di_57 rfl rfl rfl (Nat.le_of_ble_eq_true rfl) ?_
  refine ax_aload_n G d_Di_forget_45 rfl rfl ?_
  refine ax_bipush (v := 37) G d_Di_forget_46 (by decide) ?_
  refine ax_put (ci := 1) (j := 9) G d_Di_forget_48 rfl rfl (by decide) k_Di_60 rfl rfl rfl (Nat.le_of_ble_eq_true rfl) ?_
  refine ax_aload_n G d_Di_forget_51 rfl rfl ?_
  refine ax_iconst (v := 0) G d_Di_forget_52 (by decide) ?_
  refine ax_put (ci := 1) (j := 10) G d_Di_forget_53 rfl rfl (by decide) k_Di_63 rfl rfl rfl (Nat.le_of_ble_eq_true rfl) ?_
  exact ax_vret G hr E d_Di_forget_56 rfl ⟨rfl, rfl⟩
set_option maxRecDepth 20000 in
set_option maxHeartbeats 1000000 in
theorem ct_Di_isDigit (l : Launch) (n : Nat) (hn : n < 2 ^ 31) : ax_CT l y_Di_isDigit c_Di_isDigit 1 (some .boolean) 0 [.int (nI n)] [] (fun r h => r = some (.int (if 48 ≤ n ∧ n ≤ 57 then 1 else 0)) ∧ h = []) := by
  refine ax_ofV (by decide) (Nat.le_of_ble_eq_true rfl) ?_
  intro p e s m args below meth c D cid ad A Qc G hr E
  have e1 : (nI n < 48) ↔ n < 48 := nI_ltI hn (b := 48) (by decide)
  have e2 : (57 < nI n) ↔ 57 < n := nI_ltI (a := 57) (by decide) hn
  refine ax_iload_n G d_Di_isDigit_0 rfl rfl ?_
  refine ax_bipush (v := 48) G d_Di_isDigit_1 (by decide) ?_
  refine ax_icmp_lt (tgt := 16) G d_Di_isDigit_3 (by decide) (fun c_3 => ?_) (fun c_3 => ?_)
  · refine ax_iconst (v := 0) G d_Di_isDigit_16 (by decide) ?_
    exact ax_zret G hr E rfl d_Di_isDigit_17 rfl ⟨by rw [if_neg (by have := e1.mp c_3; omega)], rfl⟩
  · have h1 : ¬ n < 48 := fun q => c_3 (e1.mpr q)
    refine ax_iload_n G d_Di_isDigit_6 rfl rfl ?_
    refine ax_bipush (v := 57) G d_Di_isDigit_7 (by decide) ?_
    refine ax_icmp_gt (tgt := 16) G d_Di_isDigit_9 (by decide) (fun c_9 => ?_) (fun c_9 => ?_)
    · refine ax_iconst (v := 0) G d_Di_isDigit_16 (by decide) ?_
      exact ax_zret G hr E rfl d_Di_isDigit_17 rfl ⟨by rw [if_neg (by have := e2.mp c_9; omega)], rfl⟩
    · have h2 : ¬ 57 < n := fun q => c_9 (e2.mpr q)
      refine ax_iconst (v := 1) G d_Di_isDigit_12 (by decide) ?_
      refine ax_goto (tgt := 17) G d_Di_isDigit_13 (by decide) ?_
      exact ax_zret G hr E rfl d_Di_isDigit_17 rfl ⟨by rw [if_pos (by omega)], rfl⟩
set_option maxRecDepth 20000 in
set_option maxHeartbeats 1000000 in
theorem ct_Di_readIf (l : Launch) (n i x : Nat) (f : Nat → Int32) (c0 : Nat → Nat) (lf pl bl ha ze : Bool) (w : Int32) (wt : Bool) (pr : Int32) (pt : Bool) (kd : Int32) (gr : Bool) (hf : fo_is f n c0) (hn : n ≤ 400) (hi : i ≤ 420) (hx1 : 0 < x) (hx : x < 256) : ax_CT l y_Di_readIf c_Di_readIf 3 (some .boolean) 1 [.ref 5, .ref 1, .int (nI x)] (pc_Fo (nI n) f ++ pc_Di lf pl bl ha ze w wt pr pt kd gr (nI i)) (fun r h => r = some (.int (zb (lt c0 n i == x))) ∧ h = pc_Fo (nI n) f ++ pc_Di lf pl bl ha ze w wt pr pt kd gr (nI (if lt c0 n i = x then i + 1 else i))) := by
  refine ax_ofV (by decide) (Nat.le_of_ble_eq_true rfl) ?_
  intro p e s m args below meth c D cid ad A Qc G hr E
  have hlt := lt_lt hf i
  refine ax_aload_n G d_Di_readIf_0 rfl rfl ?_
  refine ax_aload_n G d_Di_readIf_1 rfl rfl ?_
  refine ax_get (ci := 1) (j := 11) G d_Di_readIf_2 rfl rfl (by decide) k_Di_14 rfl ?_
  refine ax_callV (n := 1) G (ct_Fo_letterAt l n i f c0 hf hn (by omega)) d_Di_readIf_5 rfl ⟨rfl, rfl, trivial⟩ rfl rfl rfl kc_Fo_letterAt ⟨k_Di_71, ki_Fo_letterAt, ks_Fo_letterAt, kk_Fo⟩ (by decide +kernel) rfl ⟨by decide, by decide⟩ (Nat.le_of_ble_eq_true rfl) ⟨by decide, by decide⟩ (fun r hc_ hq hk_ => ?_)
  obtain ⟨rfl, rfl⟩ := hq
  rw [show (if i < n then c0 i else 0) = lt c0 n i from rfl]
  refine ax_iload_n G d_Di_readIf_8 rfl rfl ?_
  refine ax_icmp_eq (tgt := 14) G d_Di_readIf_9 (by decide) (fun c_9 => ?_) (fun c_9 => ?_)
  · have he : lt c0 n i = x := (nI_eq (by omega) (by omega)).mp c_9
    refine ax_aload_n G d_Di_readIf_14 rfl rfl ?_
    refine ax_dup G d_Di_readIf_15 rfl ?_
    refine ax_get (ci := 1) (j := 11) G d_Di_readIf_16 rfl rfl (by decide) k_Di_14 rfl ?_
    refine ax_iconst (v := 1) G d_Di_readIf_19 (by decide) ?_
    refine ax_iadd G d_Di_readIf_20 ?_
    refine ax_put (ci := 1) (j := 11) G d_Di_readIf_21 rfl rfl (by decide) k_Di_14 rfl rfl rfl (Nat.le_of_ble_eq_true rfl) ?_
    rw [nI_1]
    refine ax_iconst (v := 1) G d_Di_readIf_24 (by decide) ?_
    exact ax_zret G hr E rfl d_Di_readIf_25 rfl ⟨by rw [he]; simp [zb], by rw [if_pos he]; rfl⟩
  · have he : ¬ lt c0 n i = x := fun q => c_9 (by rw [q])
    refine ax_iconst (v := 0) G d_Di_readIf_12 (by decide) ?_
    exact ax_zret G hr E rfl d_Di_readIf_13 rfl ⟨by simp [zb, he], by rw [if_neg he]; rfl⟩
set_option maxRecDepth 20000 in
set_option maxHeartbeats 1000000 in
theorem ct_Di_readDigits (l : Launch) (n i0 : Nat) (f : Nat → Int32) (c0 : Nat → Nat) (lf pl bl ha ze : Bool) (w : Int32) (wt : Bool) (pr : Int32) (pt : Bool) (kd : Int32) (gr : Bool) (hf : fo_is f n c0) (hn : n ≤ 400) (hi0 : i0 ≤ 410) : ax_CT l y_Di_readDigits c_Di_readDigits 5 (some .int) 1 [.ref 5, .ref 1] (pc_Fo (nI n) f ++ pc_Di lf pl bl ha ze w wt pr pt kd gr (nI i0)) (fun r h => r = some (.int (nI (dgt (lt c0 n) 3 i0 0).1)) ∧ h = pc_Fo (nI n) f ++ pc_Di lf pl bl ha ze w wt pr pt kd gr (nI (if 200 < (dgt (lt c0 n) 3 i0 0).1 then i0 else (dgt (lt c0 n) 3 i0 0).2))) := by
  refine ax_ofV (by decide) (Nat.le_of_ble_eq_true rfl) ?_
  intro p e s m args below meth c D cid ad A Qc G hr E
  have hV := (dgt_le (lt c0 n) 3 i0 0).2.2
  have fin : ∀ (x4 : Int32) (v i : Nat), (v, i) = dgt (lt c0 n) 3 i0 0 → ax_V p l e (ax_rm 1) s m args below meth c D cid ad A 5 0 0 (MQ below Qc args s 0 0 A) 63 [(0, .ref 5), (1, .ref 1), (2, .int (nI i0)), (3, .int (nI v)), (4, .int x4)] [] (pc_Fo (nI n) f ++ pc_Di lf pl bl ha ze w wt pr pt kd gr (nI i)) := by
    intro x4 v i he
    have e1 : (dgt (lt c0 n) 3 i0 0).1 = v := by rw [← he]
    have e2 : (dgt (lt c0 n) 3 i0 0).2 = i := by rw [← he]
    rw [e1] at hV
    refine ax_iload_n G d_Di_readDigits_63 rfl rfl ?_
    refine ax_sipush (v := 200) G d_Di_readDigits_64 (by decide) ?_
    refine ax_icmp_le (tgt := 75) G d_Di_readDigits_67 (by decide) (fun c_67 => ?_) (fun c_67 => ?_)
    · have hle : v ≤ 200 := (nI_leI (b := 200) (by omega) (by decide)).mp c_67
      refine ax_iload_n G d_Di_readDigits_75 rfl rfl ?_
      exact ax_iret G hr E d_Di_readDigits_76 rfl ⟨by rw [e1], by rw [e1, e2, if_neg (by omega)]⟩
    · have hgt : ¬ v ≤ 200 := fun q => c_67 ((nI_leI (b := 200) (by omega) (by decide)).mpr q)
      refine ax_aload_n G d_Di_readDigits_70 rfl rfl ?_
      refine ax_iload_n G d_Di_readDigits_71 rfl rfl ?_
      refine ax_put (ci := 1) (j := 11) G d_Di_readDigits_72 rfl rfl (by decide) k_Di_14 rfl rfl rfl (Nat.le_of_ble_eq_true rfl) ?_
      refine ax_iload_n G d_Di_readDigits_75 rfl rfl ?_
      exact ax_iret G hr E d_Di_readDigits_76 rfl ⟨by rw [e1], by rw [e1, if_pos (by omega)]; rfl⟩
  have loop : ∀ (k j i v : Nat), k + j = 3 → i ≤ 410 + j → v < 10 ^ j → dgt (lt c0 n) k i v = dgt (lt c0 n) 3 i0 0 → ax_V p l e (ax_rm 1) s m args below meth c D cid ad A 5 0 0 (MQ below Qc args s 0 0 A) 10 [(0, .ref 5), (1, .ref 1), (2, .int (nI i0)), (3, .int (nI v)), (4, .int (nI j))] [] (pc_Fo (nI n) f ++ pc_Di lf pl bl ha ze w wt pr pt kd gr (nI i)) := by
    intro k
    induction k with
    | zero =>
      intro j i v hj hi hv he
      refine ax_iload G d_Di_readDigits_10 rfl ?_
      refine ax_iconst (v := 3) G d_Di_readDigits_12 (by decide) ?_
      refine ax_icmp_ge (tgt := 63) G d_Di_readDigits_13 (by decide) (fun c_13 => ?_) (fun c_13 => ?_)
      · exact fin _ v i he
      · exact absurd (nI_le (a := 3) (by omega) (by omega)) c_13
    | succ k ih =>
      intro j i v hj hi hv he
      have hlt := lt_lt hf i
      have hp : 10 ^ j ≤ 100 := Nat.le_trans (Nat.pow_le_pow_right (by decide) (show j ≤ 2 by omega)) (by decide)
      rw [dgt_s] at he
      refine ax_iload G d_Di_readDigits_10 rfl ?_
      refine ax_iconst (v := 3) G d_Di_readDigits_12 (by decide) ?_
      refine ax_icmp_ge (tgt := 63) G d_Di_readDigits_13 (by decide) (fun c_13 => ?_) (fun c_13 => ?_)
      · exact absurd c_13 (nI_ge (b := 3) (by omega) (by decide))
      · refine ax_aload_n G d_Di_readDigits_16 rfl rfl ?_
        refine ax_aload_n G d_Di_readDigits_17 rfl rfl ?_
        refine ax_get (ci := 1) (j := 11) G d_Di_readDigits_18 rfl rfl (by decide) k_Di_14 rfl ?_
        refine ax_callV (n := 1) G (ct_Fo_letterAt l n i f c0 hf hn (by omega)) d_Di_readDigits_21 rfl ⟨rfl, rfl, trivial⟩ rfl rfl rfl kc_Fo_letterAt ⟨k_Di_71, ki_Fo_letterAt, ks_Fo_letterAt, kk_Fo⟩ (by decide +kernel) rfl ⟨by decide, by decide⟩ (Nat.le_of_ble_eq_true rfl) ⟨by decide, by decide⟩ (fun r hc_ hq hk_ => ?_)
        obtain ⟨rfl, rfl⟩ := hq
        rw [show (if i < n then c0 i else 0) = lt c0 n i from rfl]
        refine ax_callS (n := 1) G (ct_Di_isDigit l (lt c0 n i) (by omega)) d_Di_readDigits_24 rfl trivial rfl kc_Di_isDigit ⟨k_Di_83, kt_Di_isDigit, kk_Di⟩ (by decide +kernel) rfl ⟨by decide, by decide⟩ (Nat.le_of_ble_eq_true rfl) ⟨by decide, by decide⟩ (fun r hc_ hq hk_ => ?_)
        obtain ⟨rfl, rfl⟩ := hq
        by_cases hd : 48 ≤ lt c0 n i ∧ lt c0 n i ≤ 57
        · rw [if_pos hd] at he ⊢
          refine ax_if_eq (tgt := 63) G d_Di_readDigits_27 (by decide) (fun c_27 => ?_) (fun c_27 => ?_)
          · exact absurd c_27 (by decide)
          · refine ax_bipush (v := 10) G d_Di_readDigits_30 (by decide) ?_
            refine ax_iload_n G d_Di_readDigits_32 rfl rfl ?_
            refine ax_imul G d_Di_readDigits_33 ?_
            refine ax_aload_n G d_Di_readDigits_34 rfl rfl ?_
            refine ax_aload_n G d_Di_readDigits_35 rfl rfl ?_
            refine ax_get (ci := 1) (j := 11) G d_Di_readDigits_36 rfl rfl (by decide) k_Di_14 rfl ?_
            refine ax_callV (n := 1) G (ct_Fo_letterAt l n i f c0 hf hn (by omega)) d_Di_readDigits_39 rfl ⟨rfl, rfl, trivial⟩ rfl rfl rfl kc_Fo_letterAt ⟨k_Di_71, ki_Fo_letterAt, ks_Fo_letterAt, kk_Fo⟩ (by decide +kernel) rfl ⟨by decide, by decide⟩ (Nat.le_of_ble_eq_true rfl) ⟨by decide, by decide⟩ (fun r hc_ hq hk_ => ?_)
            obtain ⟨rfl, rfl⟩ := hq
            rw [show (if i < n then c0 i else 0) = lt c0 n i from rfl]
            refine ax_iadd G d_Di_readDigits_42 ?_
            refine ax_bipush (v := 48) G d_Di_readDigits_43 (by decide) ?_
            refine ax_isub G d_Di_readDigits_45 ?_
            rw [show (10 : Int32) * nI v + nI (lt c0 n i) - 48 = nI (10 * v + (lt c0 n i - 48)) by
              rw [show (10 : Int32) = nI 10 from rfl, pk_mul, nI_add, show (48 : Int32) = nI 48 from rfl, pk_sub (by omega)]
              congr 1
              omega]
            refine ax_istore_n G d_Di_readDigits_46 rfl (by decide) ?_
            refine ax_aload_n G d_Di_readDigits_47 rfl rfl ?_
            refine ax_dup G d_Di_readDigits_48 rfl ?_
            refine ax_get (ci := 1) (j := 11) G d_Di_readDigits_49 rfl rfl (by decide) k_Di_14 rfl ?_
            refine ax_iconst (v := 1) G d_Di_readDigits_52 (by decide) ?_
            refine ax_iadd G d_Di_readDigits_53 ?_
            refine ax_put (ci := 1) (j := 11) G d_Di_readDigits_54 rfl rfl (by decide) k_Di_14 rfl rfl rfl (Nat.le_of_ble_eq_true rfl) ?_
            refine ax_iincZ (z := 1) G d_Di_readDigits_57 rfl (by decide) (by decide) ?_
            refine ax_goto (tgt := 10) G d_Di_readDigits_60 (by decide) ?_
            rw [nI_1, nI_1]
            exact ih (j + 1) (i + 1) _ (by omega) (by omega) (by rw [Nat.pow_succ]; omega) he
        · rw [if_neg hd] at he ⊢
          refine ax_if_eq (tgt := 63) G d_Di_readDigits_27 (by decide) (fun c_27 => ?_) (fun c_27 => ?_)
          · exact fin _ v i he
          · exact absurd rfl c_27
  refine ax_aload_n G d_Di_readDigits_0 rfl rfl ?_
  refine ax_get (ci := 1) (j := 11) G d_Di_readDigits_1 rfl rfl (by decide) k_Di_14 rfl ?_
  refine ax_istore_n G d_Di_readDigits_4 rfl (by decide) ?_
  refine ax_iconst (v := 0) G d_Di_readDigits_5 (by decide) ?_
  refine ax_istore_n G d_Di_readDigits_6 rfl (by decide) ?_
  refine ax_iconst (v := 0) G d_Di_readDigits_7 (by decide) ?_
  refine ax_istore G d_Di_readDigits_8 (by decide) ?_
  exact loop 3 0 i0 0 rfl (by omega) (by decide) rfl
set_option maxRecDepth 20000 in
set_option maxHeartbeats 1000000 in
theorem ct_Di_readFlags (l : Launch) (n i0 : Nat) (f : Nat → Int32) (c0 : Nat → Nat) (lf pl bl ha ze : Bool) (w : Int32) (wt : Bool) (pr : Int32) (pt : Bool) (kd : Int32) (gr : Bool) (hf : fo_is f n c0) (hn : n ≤ 400) (hi0 : i0 ≤ n) : ax_CT l y_Di_readFlags c_Di_readFlags 2 none 1 [.ref 5, .ref 1] (pc_Fo (nI n) f ++ pc_Di lf pl bl ha ze w wt pr pt kd gr (nI i0)) (fun r h => r = none ∧ ∃ q, q = flg (lt c0 n) (n - i0) i0 lf pl bl ha ze ∧ h = pc_Fo (nI n) f ++ pc_Di q.1 q.2.1 q.2.2.1 q.2.2.2.1 q.2.2.2.2.1 w wt pr pt kd gr (nI q.2.2.2.2.2)) := by
  refine ax_ofV (by decide) (Nat.le_of_ble_eq_true rfl) ?_
  intro p e s m args below meth c D cid ad A Qc G hr E
  have loop : ∀ (k i : Nat) (a1 a2 a3 a4 a5 : Bool), k + i = n → flg (lt c0 n) k i a1 a2 a3 a4 a5 = flg (lt c0 n) (n - i0) i0 lf pl bl ha ze → ax_V p l e (ax_rm 1) s m args below meth c D cid ad A 2 0 0 (MQ below Qc args s 0 0 A) 0 [(0, .ref 5), (1, .ref 1)] [] (pc_Fo (nI n) f ++ pc_Di a1 a2 a3 a4 a5 w wt pr pt kd gr (nI i)) := by
    intro k
    induction k with
    | zero =>
      intro i a1 a2 a3 a4 a5 hk he
      refine ax_aload_n G d_Di_readFlags_0 rfl rfl ?_
      refine ax_get (ci := 1) (j := 11) G d_Di_readFlags_1 rfl rfl (by decide) k_Di_14 rfl ?_
      refine ax_aload_n G d_Di_readFlags_4 rfl rfl ?_
      refine ax_getN (ci := 2) (j := 1) G d_Di_readFlags_5 rfl rfl (by decide) k_Di_66 rfl ?_
      refine ax_icmp_ge (tgt := 122) G d_Di_readFlags_8 (by decide) (fun c_8 => ?_) (fun c_8 => ?_)
      · exact ax_vret G hr E d_Di_readFlags_122 rfl ⟨rfl, _, rfl, by rw [← he]; rfl⟩
      · exact absurd (nI_le (by omega) (by omega)) c_8
    | succ k ih =>
      intro i a1 a2 a3 a4 a5 hk he
      have hlt := lt_lt hf i
      have next : ∀ (b1 b2 b3 b4 b5 : Bool), flg (lt c0 n) k (i + 1) b1 b2 b3 b4 b5 = flg (lt c0 n) (n - i0) i0 lf pl bl ha ze → ax_V p l e (ax_rm 1) s m args below meth c D cid ad A 2 0 0 (MQ below Qc args s 0 0 A) 109 [(0, .ref 5), (1, .ref 1)] [] (pc_Fo (nI n) f ++ pc_Di b1 b2 b3 b4 b5 w wt pr pt kd gr (nI i)) := by
        intro b1 b2 b3 b4 b5 hb
        refine ax_aload_n G d_Di_readFlags_109 rfl rfl ?_
        refine ax_dup G d_Di_readFlags_110 rfl ?_
        refine ax_get (ci := 1) (j := 11) G d_Di_readFlags_111 rfl rfl (by decide) k_Di_14 rfl ?_
        refine ax_iconst (v := 1) G d_Di_readFlags_114 (by decide) ?_
        refine ax_iadd G d_Di_readFlags_115 ?_
        refine ax_put (ci := 1) (j := 11) G d_Di_readFlags_116 rfl rfl (by decide) k_Di_14 rfl rfl rfl (Nat.le_of_ble_eq_true rfl) ?_
        refine ax_goto (tgt := 0) G d_Di_readFlags_119 (by decide) ?_
        rw [nI_1]
        exact ih (i + 1) b1 b2 b3 b4 b5 (by omega) hb
      rw [flg_s] at he
      refine ax_aload_n G d_Di_readFlags_0 rfl rfl ?_
      refine ax_get (ci := 1) (j := 11) G d_Di_readFlags_1 rfl rfl (by decide) k_Di_14 rfl ?_
      refine ax_aload_n G d_Di_readFlags_4 rfl rfl ?_
      refine ax_getN (ci := 2) (j := 1) G d_Di_readFlags_5 rfl rfl (by decide) k_Di_66 rfl ?_
      refine ax_icmp_ge (tgt := 122) G d_Di_readFlags_8 (by decide) (fun c_8 => ?_) (fun c_8 => ?_)
      · exact absurd c_8 (nI_ge (by omega) (by omega))
      · refine ax_aload_n G d_Di_readFlags_11 rfl rfl ?_
        refine ax_aload_n G d_Di_readFlags_12 rfl rfl ?_
        refine ax_get (ci := 1) (j := 11) G d_Di_readFlags_13 rfl rfl (by decide) k_Di_14 rfl ?_
        refine ax_callV (n := 1) G (ct_Fo_letterAt l n i f c0 hf hn (by omega)) d_Di_readFlags_16 rfl ⟨rfl, rfl, trivial⟩ rfl rfl rfl kc_Fo_letterAt ⟨k_Di_71, ki_Fo_letterAt, ks_Fo_letterAt, kk_Fo⟩ (by decide +kernel) rfl ⟨by decide, by decide⟩ (Nat.le_of_ble_eq_true rfl) ⟨by decide, by decide⟩ (fun r hc_ hq hk_ => ?_)
        obtain ⟨rfl, rfl⟩ := hq
        rw [show (if i < n then c0 i else 0) = lt c0 n i from rfl]
        by_cases h45 : lt c0 n i = 45
        · rw [if_pos h45] at he
          rw [h45]
          refine ax_lookup (tgt := 68) (off := 49) G d_Di_readFlags_19 (by decide) (by decide) (by decide) ?_
          refine ax_aload_n G d_Di_readFlags_68 rfl rfl ?_
          refine ax_iconst (v := 1) G d_Di_readFlags_69 (by decide) ?_
          refine ax_put (ci := 1) (j := 0) G d_Di_readFlags_70 rfl rfl (by decide) k_Di_32 rfl rfl rfl (Nat.le_of_ble_eq_true rfl) ?_
          refine ax_goto (tgt := 109) G d_Di_readFlags_73 (by decide) ?_
          exact next true a2 a3 a4 a5 he
        rw [if_neg h45] at he
        by_cases h43 : lt c0 n i = 43
        · rw [if_pos h43] at he
          rw [h43]
          refine ax_lookup (tgt := 76) (off := 57) G d_Di_readFlags_19 (by decide) (by decide) (by decide) ?_
          refine ax_aload_n G d_Di_readFlags_76 rfl rfl ?_
          refine ax_iconst (v := 1) G d_Di_readFlags_77 (by decide) ?_
          refine ax_put (ci := 1) (j := 1) G d_Di_readFlags_78 rfl rfl (by decide) k_Di_36 rfl rfl rfl (Nat.le_of_ble_eq_true rfl) ?_
          refine ax_goto (tgt := 109) G d_Di_readFlags_81 (by decide) ?_
          exact next a1 true a3 a4 a5 he
        rw [if_neg h43] at he
        by_cases h32 : lt c0 n i = 32
        · rw [if_pos h32] at he
          rw [h32]
          refine ax_lookup (tgt := 84) (off := 65) G d_Di_readFlags_19 (by decide) (by decide) (by decide) ?_
          refine ax_aload_n G d_Di_readFlags_84 rfl rfl ?_
          refine ax_iconst (v := 1) G d_Di_readFlags_85 (by decide) ?_
          refine ax_put (ci := 1) (j := 2) G d_Di_readFlags_86 rfl rfl (by decide) k_Di_39 rfl rfl rfl (Nat.le_of_ble_eq_true rfl) ?_
          refine ax_goto (tgt := 109) G d_Di_readFlags_89 (by decide) ?_
          exact next a1 a2 true a4 a5 he
        rw [if_neg h32] at he
        by_cases h35 : lt c0 n i = 35
        · rw [if_pos h35] at he
          rw [h35]
          refine ax_lookup (tgt := 92) (off := 73) G d_Di_readFlags_19 (by decide) (by decide) (by decide) ?_
          refine ax_aload_n G d_Di_readFlags_92 rfl rfl ?_
          refine ax_iconst (v := 1) G d_Di_readFlags_93 (by decide) ?_
          refine ax_put (ci := 1) (j := 3) G d_Di_readFlags_94 rfl rfl (by decide) k_Di_42 rfl rfl rfl (Nat.le_of_ble_eq_true rfl) ?_
          refine ax_goto (tgt := 109) G d_Di_readFlags_97 (by decide) ?_
          exact next a1 a2 a3 true a5 he
        rw [if_neg h35] at he
        by_cases h48 : lt c0 n i = 48
        · rw [if_pos h48] at he
          rw [h48]
          refine ax_lookup (tgt := 100) (off := 81) G d_Di_readFlags_19 (by decide) (by decide) (by decide) ?_
          refine ax_aload_n G d_Di_readFlags_100 rfl rfl ?_
          refine ax_iconst (v := 1) G d_Di_readFlags_101 (by decide) ?_
          refine ax_put (ci := 1) (j := 4) G d_Di_readFlags_102 rfl rfl (by decide) k_Di_45 rfl rfl rfl (Nat.le_of_ble_eq_true rfl) ?_
          refine ax_goto (tgt := 109) G d_Di_readFlags_105 (by decide) ?_
          exact next a1 a2 a3 a4 true he
        rw [if_neg h48] at he
        have ne : ∀ q : Nat, q < 256 → lt c0 n i ≠ q → ¬ nI (lt c0 n i) = nI q := fun q hq h z => h ((nI_eq (by omega) (by omega)).mp z)
        refine ax_lookup (tgt := 108) (off := 89) G d_Di_readFlags_19 (by decide) ?_ (by decide) ?_
        · show Op.lookupswitch.offset [(32, 65), (35, 73), (43, 57), (45, 49), (48, 81)] 89 _ = 89
          rw [lv_osw (a := 32) (ne 32 (by decide) h32) (by decide), lv_osw (a := 35) (ne 35 (by decide) h35) (by decide), lv_osw (a := 43) (ne 43 (by decide) h43) (by decide), lv_osw (a := 45) (ne 45 (by decide) h45) (by decide), lv_osw (a := 48) (ne 48 (by decide) h48) (by decide)]
          rfl
        · exact ax_vret G hr E d_Di_readFlags_108 rfl ⟨rfl, _, rfl, by rw [← he]; rfl⟩
  exact loop (n - i0) i0 lf pl bl ha ze (by omega) rfl
set_option maxRecDepth 20000 in
set_option maxHeartbeats 1000000 in
theorem ct_Di_readWidth (l : Launch) (n i : Nat) (f : Nat → Int32) (c0 : Nat → Nat) (lf pl bl ha ze : Bool) (wt : Bool) (pr : Int32) (pt : Bool) (kd : Int32) (gr : Bool) (hf : fo_is f n c0) (hn : n ≤ 400) (hi : i ≤ 405) : ax_CT l y_Di_readWidth c_Di_readWidth 2 (some .boolean) 2 [.ref 5, .ref 1] (pc_Fo (nI n) f ++ pc_Di lf pl bl ha ze 0 wt pr pt kd gr (nI i)) (fun r h => r = some (.int (zb (pw (lt c0 n) i).1)) ∧ h = pc_Fo (nI n) f ++ pc_Di lf pl bl ha ze (nI (pw (lt c0 n) i).2.2.2) (pw (lt c0 n) i).2.2.1 pr pt kd gr (nI (pw (lt c0 n) i).2.1)) := by
  refine ax_ofV (by decide) (Nat.le_of_ble_eq_true rfl) ?_
  intro p e s m args below meth c D cid ad A Qc G hr E
  have hV := (dgt_le (lt c0 n) 3 i 0).2.2
  refine ax_aload_n G d_Di_readWidth_0 rfl rfl ?_
  refine ax_aload_n G d_Di_readWidth_1 rfl rfl ?_
  refine ax_aload_n G d_Di_readWidth_2 rfl rfl ?_
  refine ax_bipush (v := 42) G d_Di_readWidth_3 (by decide) ?_
  refine ax_callV (n := 2) G (ct_Di_readIf l n i 42 f c0 lf pl bl ha ze 0 wt pr pt kd gr hf hn (by omega) (by decide) (by decide)) d_Di_readWidth_5 rfl ⟨rfl, rfl, rfl, trivial⟩ rfl rfl rfl kc_Di_readIf ⟨k_Di_75, ki_Di_readIf, ks_Di_readIf, kk_Di⟩ (by decide +kernel) rfl ⟨by decide, by decide⟩ (Nat.le_of_ble_eq_true rfl) ⟨by decide, by decide⟩ (fun r hc_ hq hk_ => ?_)
  obtain ⟨rfl, rfl⟩ := hq
  refine ax_put (ci := 1) (j := 6) G d_Di_readWidth_8 rfl rfl (by decide) k_Di_51 rfl (zb_nar _) (zb_fit _) (Nat.le_of_ble_eq_true rfl) ?_
  refine ax_aload_n G d_Di_readWidth_11 rfl rfl ?_
  refine ax_get (ci := 1) (j := 6) G d_Di_readWidth_12 rfl rfl (by decide) k_Di_51 rfl ?_
  refine ax_if_eq (tgt := 20) G d_Di_readWidth_15 (by decide) (fun c_15 => ?_) (fun c_15 => ?_)
  · have h42 : ¬ lt c0 n i = 42 := fun q => by rw [q] at c_15; exact absurd c_15 (by decide)
    have e0 : (lt c0 n i == 42) = false := by simpa using h42
    rw [if_neg h42, e0]
    refine ax_aload_n G d_Di_readWidth_20 rfl rfl ?_
    refine ax_aload_n G d_Di_readWidth_21 rfl rfl ?_
    refine ax_aload_n G d_Di_readWidth_22 rfl rfl ?_
    refine ax_callV (n := 1) G (ct_Di_readDigits l n i f c0 lf pl bl ha ze 0 false pr pt kd gr hf hn (by omega)) d_Di_readWidth_23 rfl ⟨rfl, rfl, rfl, trivial⟩ rfl rfl rfl kc_Di_readDigits ⟨k_Di_79, ki_Di_readDigits, ks_Di_readDigits, kk_Di⟩ (by decide +kernel) rfl ⟨by decide, by decide⟩ (Nat.le_of_ble_eq_true rfl) ⟨by decide, by decide⟩ (fun r hc_ hq hk_ => ?_)
    obtain ⟨rfl, rfl⟩ := hq
    refine ax_put (ci := 1) (j := 5) G d_Di_readWidth_26 rfl rfl (by decide) k_Di_48 rfl rfl rfl (Nat.le_of_ble_eq_true rfl) ?_
    refine ax_aload_n G d_Di_readWidth_29 rfl rfl ?_
    refine ax_get (ci := 1) (j := 5) G d_Di_readWidth_30 rfl rfl (by decide) k_Di_48 rfl ?_
    refine ax_sipush (v := 200) G d_Di_readWidth_33 (by decide) ?_
    refine ax_icmp_gt (tgt := 43) G d_Di_readWidth_36 (by decide) (fun c_36 => ?_) (fun c_36 => ?_)
    · have hgt : 200 < (dgt (lt c0 n) 3 i 0).1 := (nI_ltI (a := 200) (by decide) (by omega)).mp c_36
      have e1 : pw (lt c0 n) i = (false, i, false, (dgt (lt c0 n) 3 i 0).1) := by unfold pw; rw [if_neg h42, if_pos hgt]
      rw [if_pos hgt]
      refine ax_iconst (v := 0) G d_Di_readWidth_43 (by decide) ?_
      exact ax_zret G hr E rfl d_Di_readWidth_44 rfl ⟨by rw [e1] <;> rfl, by rw [e1] <;> rfl⟩
    · have hle : ¬ 200 < (dgt (lt c0 n) 3 i 0).1 := fun q => c_36 ((nI_ltI (a := 200) (by decide) (by omega)).mpr q)
      have e1 : pw (lt c0 n) i = (true, (dgt (lt c0 n) 3 i 0).2, false, (dgt (lt c0 n) 3 i 0).1) := by unfold pw; rw [if_neg h42, if_neg hle]
      rw [if_neg hle]
      refine ax_iconst (v := 1) G d_Di_readWidth_39 (by decide) ?_
      refine ax_goto (tgt := 44) G d_Di_readWidth_40 (by decide) ?_
      exact ax_zret G hr E rfl d_Di_readWidth_44 rfl ⟨by rw [e1] <;> rfl, by rw [e1] <;> rfl⟩
  · have h42 : lt c0 n i = 42 := by
      by_cases q : lt c0 n i = 42
      · exact q
      · exact absurd (by rw [show (lt c0 n i == 42) = false by simpa using q]; rfl) c_15
    have e1 : pw (lt c0 n) i = (true, i + 1, true, 0) := by unfold pw; rw [if_pos h42]
    have e0 : (lt c0 n i == 42) = true := by simpa using h42
    rw [if_pos h42, e0]
    refine ax_iconst (v := 1) G d_Di_readWidth_18 (by decide) ?_
    exact ax_zret G hr E rfl d_Di_readWidth_19 rfl ⟨by rw [e1] <;> rfl, by rw [e1] <;> rfl⟩
set_option maxRecDepth 20000 in
set_option maxHeartbeats 1000000 in
theorem ct_Di_readPrecision (l : Launch) (n i : Nat) (f : Nat → Int32) (c0 : Nat → Nat) (lf pl bl ha ze : Bool) (w : Int32) (wt : Bool) (kd : Int32) (gr : Bool) (hf : fo_is f n c0) (hn : n ≤ 400) (hi : i ≤ 405) : ax_CT l y_Di_readPrecision c_Di_readPrecision 2 (some .boolean) 2 [.ref 5, .ref 1] (pc_Fo (nI n) f ++ pc_Di lf pl bl ha ze w wt (-1) false kd gr (nI i)) (fun r h => r = some (.int (zb (pp (lt c0 n) i).1)) ∧ h = pc_Fo (nI n) f ++ pc_Di lf pl bl ha ze w wt (pp (lt c0 n) i).2.2.2 (pp (lt c0 n) i).2.2.1 kd gr (nI (pp (lt c0 n) i).2.1)) := by
  refine ax_ofV (by decide) (Nat.le_of_ble_eq_true rfl) ?_
  intro p e s m args below meth c D cid ad A Qc G hr E
  have hV := (dgt_le (lt c0 n) 3 (i + 1) 0).2.2
  refine ax_aload_n G d_Di_readPrecision_0 rfl rfl ?_
  refine ax_aload_n G d_Di_readPrecision_1 rfl rfl ?_
  refine ax_bipush (v := 46) G d_Di_readPrecision_2 (by decide) ?_
  refine ax_callV (n := 2) G (ct_Di_readIf l n i 46 f c0 lf pl bl ha ze w wt (-1) false kd gr hf hn (by omega) (by decide) (by decide)) d_Di_readPrecision_4 rfl ⟨rfl, rfl, rfl, trivial⟩ rfl rfl rfl kc_Di_readIf ⟨k_Di_75, ki_Di_readIf, ks_Di_readIf, kk_Di⟩ (by decide +kernel) rfl ⟨by decide, by decide⟩ (Nat.le_of_ble_eq_true rfl) ⟨by decide, by decide⟩ (fun r hc_ hq hk_ => ?_)
  obtain ⟨rfl, rfl⟩ := hq
  refine ax_if_ne (tgt := 12) G d_Di_readPrecision_7 (by decide) (fun c_7 => ?_) (fun c_7 => ?_)
  · have h46 : lt c0 n i = 46 := by
      by_cases q : lt c0 n i = 46
      · exact q
      · exact absurd (by rw [show (lt c0 n i == 46) = false by simpa using q]; rfl) c_7
    rw [if_pos h46]
    refine ax_aload_n G d_Di_readPrecision_12 rfl rfl ?_
    refine ax_aload_n G d_Di_readPrecision_13 rfl rfl ?_
    refine ax_aload_n G d_Di_readPrecision_14 rfl rfl ?_
    refine ax_bipush (v := 42) G d_Di_readPrecision_15 (by decide) ?_
    refine ax_callV (n := 2) G (ct_Di_readIf l n (i + 1) 42 f c0 lf pl bl ha ze w wt (-1) false kd gr hf hn (by omega) (by decide) (by decide)) d_Di_readPrecision_17 rfl ⟨rfl, rfl, rfl, trivial⟩ rfl rfl rfl kc_Di_readIf ⟨k_Di_75, ki_Di_readIf, ks_Di_readIf, kk_Di⟩ (by decide +kernel) rfl ⟨by decide, by decide⟩ (Nat.le_of_ble_eq_true rfl) ⟨by decide, by decide⟩ (fun r hc_ hq hk_ => ?_)
    obtain ⟨rfl, rfl⟩ := hq
    refine ax_put (ci := 1) (j := 8) G d_Di_readPrecision_20 rfl rfl (by decide) k_Di_57 rfl (zb_nar _) (zb_fit _) (Nat.le_of_ble_eq_true rfl) ?_
    refine ax_aload_n G d_Di_readPrecision_23 rfl rfl ?_
    refine ax_get (ci := 1) (j := 8) G d_Di_readPrecision_24 rfl rfl (by decide) k_Di_57 rfl ?_
    refine ax_if_eq (tgt := 32) G d_Di_readPrecision_27 (by decide) (fun c_27 => ?_) (fun c_27 => ?_)
    · have h42 : ¬ lt c0 n (i + 1) = 42 := fun q => by rw [q] at c_27; exact absurd c_27 (by decide)
      have e0 : (lt c0 n (i + 1) == 42) = false := by simpa using h42
      rw [if_neg h42, e0]
      refine ax_aload_n G d_Di_readPrecision_32 rfl rfl ?_
      refine ax_aload_n G d_Di_readPrecision_33 rfl rfl ?_
      refine ax_aload_n G d_Di_readPrecision_34 rfl rfl ?_
      refine ax_callV (n := 1) G (ct_Di_readDigits l n (i + 1) f c0 lf pl bl ha ze w wt (-1) false kd gr hf hn (by omega)) d_Di_readPrecision_35 rfl ⟨rfl, rfl, rfl, trivial⟩ rfl rfl rfl kc_Di_readDigits ⟨k_Di_79, ki_Di_readDigits, ks_Di_readDigits, kk_Di⟩ (by decide +kernel) rfl ⟨by decide, by decide⟩ (Nat.le_of_ble_eq_true rfl) ⟨by decide, by decide⟩ (fun r hc_ hq hk_ => ?_)
      obtain ⟨rfl, rfl⟩ := hq
      refine ax_put (ci := 1) (j := 7) G d_Di_readPrecision_38 rfl rfl (by decide) k_Di_54 rfl rfl rfl (Nat.le_of_ble_eq_true rfl) ?_
      refine ax_aload_n G d_Di_readPrecision_41 rfl rfl ?_
      refine ax_get (ci := 1) (j := 7) G d_Di_readPrecision_42 rfl rfl (by decide) k_Di_54 rfl ?_
      refine ax_sipush (v := 200) G d_Di_readPrecision_45 (by decide) ?_
      refine ax_icmp_gt (tgt := 55) G d_Di_readPrecision_48 (by decide) (fun c_48 => ?_) (fun c_48 => ?_)
      · have hgt : 200 < (dgt (lt c0 n) 3 (i + 1) 0).1 := (nI_ltI (a := 200) (by decide) (by omega)).mp c_48
        have e1 : pp (lt c0 n) i = (false, i + 1, false, nI (dgt (lt c0 n) 3 (i + 1) 0).1) := by unfold pp; rw [if_pos h46, if_neg h42, if_pos hgt]
        rw [if_pos hgt]
        refine ax_iconst (v := 0) G d_Di_readPrecision_55 (by decide) ?_
        exact ax_zret G hr E rfl d_Di_readPrecision_56 rfl ⟨by rw [e1] <;> rfl, by rw [e1] <;> rfl⟩
      · have hle : ¬ 200 < (dgt (lt c0 n) 3 (i + 1) 0).1 := fun q => c_48 ((nI_ltI (a := 200) (by decide) (by omega)).mpr q)
        have e1 : pp (lt c0 n) i = (true, (dgt (lt c0 n) 3 (i + 1) 0).2, false, nI (dgt (lt c0 n) 3 (i + 1) 0).1) := by unfold pp; rw [if_pos h46, if_neg h42, if_neg hle]
        rw [if_neg hle]
        refine ax_iconst (v := 1) G d_Di_readPrecision_51 (by decide) ?_
        refine ax_goto (tgt := 56) G d_Di_readPrecision_52 (by decide) ?_
        exact ax_zret G hr E rfl d_Di_readPrecision_56 rfl ⟨by rw [e1] <;> rfl, by rw [e1] <;> rfl⟩
    · have h42 : lt c0 n (i + 1) = 42 := by
        by_cases q : lt c0 n (i + 1) = 42
        · exact q
        · exact absurd (by rw [show (lt c0 n (i + 1) == 42) = false by simpa using q]; rfl) c_27
      have e1 : pp (lt c0 n) i = (true, i + 2, true, -1) := by unfold pp; rw [if_pos h46, if_pos h42]
      have e0 : (lt c0 n (i + 1) == 42) = true := by simpa using h42
      rw [if_pos h42, e0]
      refine ax_iconst (v := 1) G d_Di_readPrecision_30 (by decide) ?_
      exact ax_zret G hr E rfl d_Di_readPrecision_31 rfl ⟨by rw [e1] <;> rfl, by rw [e1] <;> rfl⟩
  · have h46 : ¬ lt c0 n i = 46 := fun q => by rw [q] at c_7; exact absurd c_7 (by decide)
    have e1 : pp (lt c0 n) i = (true, i, false, -1) := by unfold pp; rw [if_neg h46]
    rw [if_neg h46]
    refine ax_iconst (v := 1) G d_Di_readPrecision_10 (by decide) ?_
    exact ax_zret G hr E rfl d_Di_readPrecision_11 rfl ⟨by rw [e1] <;> rfl, by rw [e1] <;> rfl⟩
set_option maxRecDepth 20000 in
set_option maxHeartbeats 1000000 in
theorem ct_Di_readKind (l : Launch) (n i : Nat) (f : Nat → Int32) (c0 : Nat → Nat) (lf pl bl ha ze : Bool) (w : Int32) (wt : Bool) (pr : Int32) (pt : Bool) (kd : Int32) (gr : Bool) (hf : fo_is f n c0) (hn : n ≤ 400) (hi : i ≤ 410) : ax_CT l y_Di_readKind c_Di_readKind 3 (some .boolean) 4 [.ref 5, .ref 1] (pc_Fo (nI n) f ++ pc_Di lf pl bl ha ze w wt pr pt kd gr (nI i)) (fun r h => r = some (.int (zb (isK (lt c0 n i)))) ∧ h = pc_Fo (nI n) f ++ pc_Di lf pl bl ha ze w wt pr pt (if isK (lt c0 n i) then nI (sml (lt c0 n i)) else kd) (if isK (lt c0 n i) then grt (lt c0 n i) else gr) (nI i)) := by
  refine ax_ofV (by decide) (Nat.le_of_ble_eq_true rfl) ?_
  intro p e s m args below meth c D cid ad A Qc G hr E
  have hlt := lt_lt hf i
  refine ax_aload_n G d_Di_readKind_0 rfl rfl ?_
  refine ax_aload_n G d_Di_readKind_1 rfl rfl ?_
  refine ax_get (ci := 1) (j := 11) G d_Di_readKind_2 rfl rfl (by decide) k_Di_14 rfl ?_
  refine ax_callV (n := 1) G (ct_Fo_letterAt l n i f c0 hf hn (by omega)) d_Di_readKind_5 rfl ⟨rfl, rfl, trivial⟩ rfl rfl rfl kc_Fo_letterAt ⟨k_Di_71, ki_Fo_letterAt, ks_Fo_letterAt, kk_Fo⟩ (by decide +kernel) rfl ⟨by decide, by decide⟩ (Nat.le_of_ble_eq_true rfl) ⟨by decide, by decide⟩ (fun r hc_ hq hk_ => ?_)
  obtain ⟨rfl, rfl⟩ := hq
  rw [show (if i < n then c0 i else 0) = lt c0 n i from rfl]
  generalize lt c0 n i = x at *
  refine ax_i2c G d_Di_readKind_8 ?_
  rw [pk_char, pk_tn (by omega), Nat.mod_eq_of_lt (by omega)]
  refine ax_istore_n G d_Di_readKind_9 rfl (by decide) ?_
  refine ax_ldcS (tx := "diuoxXceEfFgGaA%") (t := 0) G d_Di_readKind_10 (by decide +kernel) ?_
  refine ax_iload_n G d_Di_readKind_12 rfl rfl ?_
  refine ax_callK (n := 1) G (by decide) (ct_St_indexOf l 0 x (by decide) hlt) d_Di_readKind_13 rfl trivial rfl kc_St_indexOf ⟨k_Di_89, ki_St_indexOf, ks_St_indexOf, kk_St⟩ (by decide +kernel) rfl ⟨by decide, by decide⟩ (Nat.le_of_ble_eq_true rfl) ⟨by decide, by decide⟩ (fun r hc_ hq hk_ => ?_)
  obtain ⟨rfl, rfl⟩ := hq
  have hK := ix_K x hlt
  refine ax_if_ge (tgt := 21) G d_Di_readKind_16 (by decide) (fun c_16 => ?_) (fun c_16 => ?_)
  · have h1 : isK x = true := by
      cases hq : isK x with
      | true => rfl
      | false => exact absurd (hK.mpr hq) (Int32.not_lt.mpr c_16)
    have g1 : (nI x < 65) ↔ x < 65 := nI_ltI (b := 65) (by omega) (by decide)
    have g2 : (90 < nI x) ↔ 90 < x := nI_ltI (a := 90) (by decide) (by omega)
    have smallCase : ¬ (65 ≤ x ∧ x ≤ 90) → ax_V p l e (ax_rm 4) s m args below meth c D cid ad A 3 0 0 (MQ below Qc args s 0 0 A) 39 [(0, .ref 5), (1, .ref 1), (2, .int (nI x))] [.int 0, .ref 5] (pc_Fo (nI n) f ++ pc_Di lf pl bl ha ze w wt pr pt kd gr (nI i)) := by
      intro hs
      have e1 : sml x = x := by unfold sml; rw [if_neg hs]
      have e2 : grt x = false := by unfold grt; exact decide_eq_false hs
      refine ax_put (ci := 1) (j := 10) G d_Di_readKind_39 rfl rfl (by decide) k_Di_63 rfl rfl rfl (Nat.le_of_ble_eq_true rfl) ?_
      refine ax_aload_n G d_Di_readKind_42 rfl rfl ?_
      refine ax_aload_n G d_Di_readKind_43 rfl rfl ?_
      refine ax_get (ci := 1) (j := 10) G d_Di_readKind_44 rfl rfl (by decide) k_Di_63 rfl ?_
      refine ax_if_eq (tgt := 60) G d_Di_readKind_47 (by decide) (fun c_47 => ?_) (fun c_47 => ?_)
      · refine ax_iload_n G d_Di_readKind_60 rfl rfl ?_
        refine ax_put (ci := 1) (j := 9) G d_Di_readKind_61 rfl rfl (by decide) k_Di_60 rfl rfl rfl (Nat.le_of_ble_eq_true rfl) ?_
        refine ax_iconst (v := 1) G d_Di_readKind_64 (by decide) ?_
        exact ax_zret G hr E rfl d_Di_readKind_65 rfl ⟨by rw [h1] <;> rfl, by rw [h1, if_pos rfl, if_pos rfl, e1, e2] <;> rfl⟩
      · exact absurd rfl c_47
    refine ax_aload_n G d_Di_readKind_21 rfl rfl ?_
    refine ax_iload_n G d_Di_readKind_22 rfl rfl ?_
    refine ax_bipush (v := 65) G d_Di_readKind_23 (by decide) ?_
    refine ax_icmp_lt (tgt := 38) G d_Di_readKind_25 (by decide) (fun c_25 => ?_) (fun c_25 => ?_)
    · refine ax_iconst (v := 0) G d_Di_readKind_38 (by decide) ?_
      exact smallCase (by have := g1.mp c_25; omega)
    · have q1 : ¬ x < 65 := fun q => c_25 (g1.mpr q)
      refine ax_iload_n G d_Di_readKind_28 rfl rfl ?_
      refine ax_bipush (v := 90) G d_Di_readKind_29 (by decide) ?_
      refine ax_icmp_gt (tgt := 38) G d_Di_readKind_31 (by decide) (fun c_31 => ?_) (fun c_31 => ?_)
      · refine ax_iconst (v := 0) G d_Di_readKind_38 (by decide) ?_
        exact smallCase (by have := g2.mp c_31; omega)
      · have q2 : ¬ 90 < x := fun q => c_31 (g2.mpr q)
        have e1 : sml x = x + 32 := by unfold sml; rw [if_pos (by omega)]
        have e2 : grt x = true := by unfold grt; exact decide_eq_true (by omega)
        refine ax_iconst (v := 1) G d_Di_readKind_34 (by decide) ?_
        refine ax_goto (tgt := 39) G d_Di_readKind_35 (by decide) ?_
        refine ax_put (ci := 1) (j := 10) G d_Di_readKind_39 rfl rfl (by decide) k_Di_63 rfl rfl rfl (Nat.le_of_ble_eq_true rfl) ?_
        refine ax_aload_n G d_Di_readKind_42 rfl rfl ?_
        refine ax_aload_n G d_Di_readKind_43 rfl rfl ?_
        refine ax_get (ci := 1) (j := 10) G d_Di_readKind_44 rfl rfl (by decide) k_Di_63 rfl ?_
        refine ax_if_eq (tgt := 60) G d_Di_readKind_47 (by decide) (fun c_47 => ?_) (fun c_47 => ?_)
        · exact absurd c_47 (by decide)
        · refine ax_iload_n G d_Di_readKind_50 rfl rfl ?_
          refine ax_bipush (v := 65) G d_Di_readKind_51 (by decide) ?_
          refine ax_isub G d_Di_readKind_53 ?_
          refine ax_bipush (v := 97) G d_Di_readKind_54 (by decide) ?_
          refine ax_iadd G d_Di_readKind_56 ?_
          refine ax_goto (tgt := 61) G d_Di_readKind_57 (by decide) ?_
          rw [show nI x - 65 + 97 = nI (x + 32) by
            rw [show (65 : Int32) = nI 65 from rfl, pk_sub (by omega), show (97 : Int32) = nI 97 from rfl, nI_add]
            congr 1
            omega]
          refine ax_put (ci := 1) (j := 9) G d_Di_readKind_61 rfl rfl (by decide) k_Di_60 rfl rfl rfl (Nat.le_of_ble_eq_true rfl) ?_
          refine ax_iconst (v := 1) G d_Di_readKind_64 (by decide) ?_
          exact ax_zret G hr E rfl d_Di_readKind_65 rfl ⟨by rw [h1] <;> rfl, by rw [h1, if_pos rfl, if_pos rfl, e1, e2] <;> rfl⟩
  · have h1 : isK x = false := hK.mp (Int32.not_le.mp c_16)
    refine ax_iconst (v := 0) G d_Di_readKind_19 (by decide) ?_
    exact ax_zret G hr E rfl d_Di_readKind_20 rfl ⟨by rw [h1] <;> rfl, by rw [h1] <;> rfl⟩
set_option maxRecDepth 20000 in
set_option maxHeartbeats 1000000 in
theorem ct_Di_read (l : Launch) (n i : Nat) (f : Nat → Int32) (c0 : Nat → Nat) (lf pl bl ha ze : Bool) (w : Int32) (wt : Bool) (pr : Int32) (pt : Bool) (kd : Int32) (gr : Bool) (pa : Int32) (hf : fo_is f n c0) (hn : n ≤ 400) (hi : i < n) : ax_CT l y_Di_read c_Di_read 3 (some .boolean) 5 [.ref 5, .ref 1, .int (nI i)] (pc_Fo (nI n) f ++ pc_Di lf pl bl ha ze w wt pr pt kd gr pa) (fun r h => r = some (.int (zb (rdOk (lt c0 n) n i))) ∧ ∃ a1 a2 a3 a4 a5 a6 a7 a8 a9 a10 a11, h = pc_Fo (nI n) f ++ pc_Di a1 a2 a3 a4 a5 a6 a7 a8 a9 a10 a11 (nI (rdAt (lt c0 n) n i)) ∧ (rdOk (lt c0 n) n i = true → (a1, a2, a3, a4, a5) = ((rdF (lt c0 n) n i).1, (rdF (lt c0 n) n i).2.1, (rdF (lt c0 n) n i).2.2.1, (rdF (lt c0 n) n i).2.2.2.1, (rdF (lt c0 n) n i).2.2.2.2.1) ∧ a6 = nI (rdW (lt c0 n) n i).2.2.2 ∧ a7 = (rdW (lt c0 n) n i).2.2.1 ∧ a8 = (rdP (lt c0 n) n i).2.2.2 ∧ a9 = (rdP (lt c0 n) n i).2.2.1 ∧ a10 = nI (sml (lt c0 n (rdAt (lt c0 n) n i))) ∧ a11 = grt (lt c0 n (rdAt (lt c0 n) n i)))) := by
  refine ax_ofV (by decide) (Nat.le_of_ble_eq_true rfl) ?_
  intro p e s m args below meth c D cid ad A Qc G hr E
  have b1 := flg_le (lt c0 n) (n - (i + 1)) (i + 1) false false false false false
  have b2 := pw_le (lt c0 n) (rdF (lt c0 n) n i).2.2.2.2.2
  have b3 := pp_le (lt c0 n) (rdW (lt c0 n) n i).2.1
  have b4 : (rdF (lt c0 n) n i).2.2.2.2.2 ≤ 400 := by unfold rdF; omega
  have b5 : (rdW (lt c0 n) n i).2.1 ≤ 403 := by unfold rdW; omega
  have b6 : (rdP (lt c0 n) n i).2.1 ≤ 407 := by unfold rdP; omega
  refine ax_aload_n G d_Di_read_0 rfl rfl ?_
  refine ax_callV (n := 0) G (ct_Di_forget l lf pl bl ha ze w wt pr pt kd gr pa) d_Di_read_1 rfl ⟨rfl, trivial⟩ rfl rfl rfl kc_Di_forget ⟨k_Di_9, ki_Di_forget, ks_Di_forget, kk_Di⟩ (by decide +kernel) rfl ⟨by decide, by decide⟩ (Nat.le_of_ble_eq_true rfl) ⟨by decide, by decide⟩ (fun r hc_ hq hk_ => ?_)
  obtain ⟨rfl, rfl⟩ := hq
  refine ax_aload_n G d_Di_read_4 rfl rfl ?_
  refine ax_iload_n G d_Di_read_5 rfl rfl ?_
  refine ax_iconst (v := 1) G d_Di_read_6 (by decide) ?_
  refine ax_iadd G d_Di_read_7 ?_
  refine ax_put (ci := 1) (j := 11) G d_Di_read_8 rfl rfl (by decide) k_Di_14 rfl rfl rfl (Nat.le_of_ble_eq_true rfl) ?_
  refine ax_aload_n G d_Di_read_11 rfl rfl ?_
  refine ax_aload_n G d_Di_read_12 rfl rfl ?_
  rw [nI_1]
  refine ax_callV (n := 1) G (ct_Di_readFlags l n (i + 1) f c0 false false false false false 0 false (-1) false 37 false hf hn (by omega)) d_Di_read_13 rfl ⟨rfl, rfl, rfl, trivial⟩ rfl rfl rfl kc_Di_readFlags ⟨k_Di_18, ki_Di_readFlags, ks_Di_readFlags, kk_Di⟩ (by decide +kernel) rfl ⟨by decide, by decide⟩ (Nat.le_of_ble_eq_true rfl) ⟨by decide, by decide⟩ (fun r hc_ hq hk_ => ?_)
  obtain ⟨rfl, q, hq1, rfl⟩ := hq
  have hq2 : q = rdF (lt c0 n) n i := hq1
  rw [hq2]
  clear hq1 hq2 b1
  refine ax_aload_n G d_Di_read_16 rfl rfl ?_
  refine ax_aload_n G d_Di_read_17 rfl rfl ?_
  refine ax_callV (n := 1) G (ct_Di_readWidth l n (rdF (lt c0 n) n i).2.2.2.2.2 f c0 _ _ _ _ _ false (-1) false 37 false hf hn (by omega)) d_Di_read_18 rfl ⟨rfl, rfl, rfl, trivial⟩ rfl rfl rfl kc_Di_readWidth ⟨k_Di_22, ki_Di_readWidth, ks_Di_readWidth, kk_Di⟩ (by decide +kernel) rfl ⟨by decide, by decide⟩ (Nat.le_of_ble_eq_true rfl) ⟨by decide, by decide⟩ (fun r hc_ hq hk_ => ?_)
  obtain ⟨rfl, rfl⟩ := hq
  rw [show pw (lt c0 n) (rdF (lt c0 n) n i).2.2.2.2.2 = rdW (lt c0 n) n i from rfl]
  refine ax_if_eq (tgt := 44) G d_Di_read_21 (by decide) (fun c_21 => ?_) (fun c_21 => ?_)
  · have hw : (rdW (lt c0 n) n i).1 = false := (zb_ne _).mp c_21
    have e1 : rdOk (lt c0 n) n i = false := by unfold rdOk; rw [hw]; rfl
    have e2 : rdAt (lt c0 n) n i = (rdW (lt c0 n) n i).2.1 := by unfold rdAt; rw [hw]; rfl
    refine ax_iconst (v := 0) G d_Di_read_44 (by decide) ?_
    exact ax_zret G hr E rfl d_Di_read_45 rfl ⟨by rw [e1]; rfl, _, _, _, _, _, _, _, _, _, _, _, by rw [e2]; rfl, fun z => by rw [e1] at z; cases z⟩
  · have hw : (rdW (lt c0 n) n i).1 = true := by
      cases hq : (rdW (lt c0 n) n i).1 with
      | true => rfl
      | false => exact absurd ((zb_ne _).mpr hq) c_21
    have e2 : rdAt (lt c0 n) n i = (rdP (lt c0 n) n i).2.1 := by unfold rdAt; rw [hw]; rfl
    refine ax_aload_n G d_Di_read_24 rfl rfl ?_
    refine ax_aload_n G d_Di_read_25 rfl rfl ?_
    refine ax_callV (n := 1) G (ct_Di_readPrecision l n (rdW (lt c0 n) n i).2.1 f c0 _ _ _ _ _ _ _ 37 false hf hn (by omega)) d_Di_read_26 rfl ⟨rfl, rfl, rfl, trivial⟩ rfl rfl rfl kc_Di_readPrecision ⟨k_Di_26, ki_Di_readPrecision, ks_Di_readPrecision, kk_Di⟩ (by decide +kernel) rfl ⟨by decide, by decide⟩ (Nat.le_of_ble_eq_true rfl) ⟨by decide, by decide⟩ (fun r hc_ hq hk_ => ?_)
    obtain ⟨rfl, rfl⟩ := hq
    rw [show pp (lt c0 n) (rdW (lt c0 n) n i).2.1 = rdP (lt c0 n) n i from rfl]
    refine ax_if_eq (tgt := 44) G d_Di_read_29 (by decide) (fun c_29 => ?_) (fun c_29 => ?_)
    · have hp : (rdP (lt c0 n) n i).1 = false := (zb_ne _).mp c_29
      have e1 : rdOk (lt c0 n) n i = false := by unfold rdOk; rw [hp]; simp
      refine ax_iconst (v := 0) G d_Di_read_44 (by decide) ?_
      exact ax_zret G hr E rfl d_Di_read_45 rfl ⟨by rw [e1]; rfl, _, _, _, _, _, _, _, _, _, _, _, by rw [e2]; rfl, fun z => by rw [e1] at z; cases z⟩
    · have hp : (rdP (lt c0 n) n i).1 = true := by
        cases hq : (rdP (lt c0 n) n i).1 with
        | true => rfl
        | false => exact absurd ((zb_ne _).mpr hq) c_29
      have e1 : rdOk (lt c0 n) n i = isK (lt c0 n (rdP (lt c0 n) n i).2.1) := by unfold rdOk; rw [hw, hp]; rfl
      refine ax_aload_n G d_Di_read_32 rfl rfl ?_
      refine ax_aload_n G d_Di_read_33 rfl rfl ?_
      refine ax_callV (n := 1) G (ct_Di_readKind l n (rdP (lt c0 n) n i).2.1 f c0 _ _ _ _ _ _ _ _ _ 37 false hf hn (by omega)) d_Di_read_34 rfl ⟨rfl, rfl, rfl, trivial⟩ rfl rfl rfl kc_Di_readKind ⟨k_Di_29, ki_Di_readKind, ks_Di_readKind, kk_Di⟩ (by decide +kernel) rfl ⟨by decide, by decide⟩ (Nat.le_of_ble_eq_true rfl) ⟨by decide, by decide⟩ (fun r hc_ hq hk_ => ?_)
      obtain ⟨rfl, rfl⟩ := hq
      refine ax_if_eq (tgt := 44) G d_Di_read_37 (by decide) (fun c_37 => ?_) (fun c_37 => ?_)
      · have hk : isK (lt c0 n (rdP (lt c0 n) n i).2.1) = false := (zb_ne _).mp c_37
        rw [hk] at e1
        refine ax_iconst (v := 0) G d_Di_read_44 (by decide) ?_
        exact ax_zret G hr E rfl d_Di_read_45 rfl ⟨by rw [e1]; rfl, _, _, _, _, _, _, _, _, _, _, _, by rw [e2]; rfl, fun z => by rw [e1] at z; cases z⟩
      · have hk : isK (lt c0 n (rdP (lt c0 n) n i).2.1) = true := by
          cases hq : isK (lt c0 n (rdP (lt c0 n) n i).2.1) with
          | true => rfl
          | false => exact absurd ((zb_ne _).mpr hq) c_37
        rw [hk] at e1
        refine ax_iconst (v := 1) G d_Di_read_40 (by decide) ?_
        refine ax_goto (tgt := 45) G d_Di_read_41 (by decide) ?_
        exact ax_zret G hr E rfl d_Di_read_45 rfl ⟨by rw [e1]; rfl, _, _, _, _, _, _, _, _, _, _, _, by rw [e2]; rfl, fun z => ⟨rfl, rfl, rfl, rfl, rfl, by rw [e2, hk]; rfl, by rw [e2, hk]; rfl⟩⟩
set_option maxRecDepth 20000 in
set_option maxHeartbeats 1000000 in
theorem ct_Di_useTakenWidth (l : Launch) (x : Int32) (lf pl bl ha ze : Bool) (w : Int32) (wt : Bool) (pr : Int32) (pt : Bool) (kd : Int32) (gr : Bool) (pa : Int32) : ax_CT l y_Di_useTakenWidth c_Di_useTakenWidth 2 none 0 [.ref 5, .int x] (pc_Di lf pl bl ha ze w wt pr pt kd gr pa) (fun r h => r = none ∧ h = pc_Di (if x < 0 then true else lf) pl bl ha ze (if x < 0 then -x else x) wt pr pt kd gr pa) := by
  by_cases hx : x < 0
  · rw [if_pos hx, if_pos hx]
    refine ax_ofV (by decide) (Nat.le_of_ble_eq_true rfl) ?_
    intro p e s m args below meth c D cid ad A Qc G hr E
    refine ax_iload_n G d_Di_useTakenWidth_0 rfl rfl ?_
    refine ax_if_ge (tgt := 9) G d_Di_useTakenWidth_1 (by decide) (fun c_1 => ?_) (fun c_1 => ?_)
    · exact absurd hx (Int32.not_lt.mpr c_1)
    · refine ax_aload_n G d_Di_useTakenWidth_4 rfl rfl ?_
      refine ax_iconst (v := 1) G d_Di_useTakenWidth_5 (by decide) ?_
      refine ax_put (ci := 1) (j := 0) G d_Di_useTakenWidth_6 rfl rfl (by decide) k_Di_32 rfl rfl rfl (Nat.le_of_ble_eq_true rfl) ?_
      refine ax_aload_n G d_Di_useTakenWidth_9 rfl rfl ?_
      refine ax_iload_n G d_Di_useTakenWidth_10 rfl rfl ?_
      refine ax_if_ge (tgt := 19) G d_Di_useTakenWidth_11 (by decide) (fun c_11 => ?_) (fun c_11 => ?_)
      · exact absurd hx (Int32.not_lt.mpr c_11)
      · refine ax_iload_n G d_Di_useTakenWidth_14 rfl rfl ?_
        refine ax_ineg G d_Di_useTakenWidth_15 ?_
        refine ax_goto (tgt := 20) G d_Di_useTakenWidth_16 (by decide) ?_
        refine ax_put (ci := 1) (j := 5) G d_Di_useTakenWidth_20 rfl rfl (by decide) k_Di_48 rfl rfl rfl (Nat.le_of_ble_eq_true rfl) ?_
        exact ax_vret G hr E d_Di_useTakenWidth_23 rfl ⟨rfl, rfl⟩
  · rw [if_neg hx, if_neg hx]
    refine ax_ofV (by decide) (Nat.le_of_ble_eq_true rfl) ?_
    intro p e s m args below meth c D cid ad A Qc G hr E
    refine ax_iload_n G d_Di_useTakenWidth_0 rfl rfl ?_
    refine ax_if_ge (tgt := 9) G d_Di_useTakenWidth_1 (by decide) (fun c_1 => ?_) (fun c_1 => ?_)
    · refine ax_aload_n G d_Di_useTakenWidth_9 rfl rfl ?_
      refine ax_iload_n G d_Di_useTakenWidth_10 rfl rfl ?_
      refine ax_if_ge (tgt := 19) G d_Di_useTakenWidth_11 (by decide) (fun c_11 => ?_) (fun c_11 => ?_)
      · refine ax_iload_n G d_Di_useTakenWidth_19 rfl rfl ?_
        refine ax_put (ci := 1) (j := 5) G d_Di_useTakenWidth_20 rfl rfl (by decide) k_Di_48 rfl rfl rfl (Nat.le_of_ble_eq_true rfl) ?_
        exact ax_vret G hr E d_Di_useTakenWidth_23 rfl ⟨rfl, rfl⟩
      · exact absurd (Int32.not_lt.mp hx) c_11
    · exact absurd (Int32.not_lt.mp hx) c_1
set_option maxRecDepth 20000 in
set_option maxHeartbeats 1000000 in
theorem ct_Di_useTakenPrecision (l : Launch) (x : Int32) (lf pl bl ha ze : Bool) (w : Int32) (wt : Bool) (pr : Int32) (pt : Bool) (kd : Int32) (gr : Bool) (pa : Int32) : ax_CT l y_Di_useTakenPrecision c_Di_useTakenPrecision 2 none 0 [.ref 5, .int x] (pc_Di lf pl bl ha ze w wt pr pt kd gr pa) (fun r h => r = none ∧ h = pc_Di lf pl bl ha ze w wt (if x < 0 then -1 else x) pt kd gr pa) := by
  by_cases hx : x < 0
  · rw [if_pos hx]
    refine ax_ofV (by decide) (Nat.le_of_ble_eq_true rfl) ?_
    intro p e s m args below meth c D cid ad A Qc G hr E
    refine ax_aload_n G d_Di_useTakenPrecision_0 rfl rfl ?_
    refine ax_iload_n G d_Di_useTakenPrecision_1 rfl rfl ?_
    refine ax_if_ge (tgt := 9) G d_Di_useTakenPrecision_2 (by decide) (fun c_2 => ?_) (fun c_2 => ?_)
    · exact absurd hx (Int32.not_lt.mpr c_2)
    · refine ax_iconst (v := (-1)) G d_Di_useTakenPrecision_5 (by decide) ?_
      refine ax_goto (tgt := 10) G d_Di_useTakenPrecision_6 (by decide) ?_
      refine ax_put (ci := 1) (j := 7) G d_Di_useTakenPrecision_10 rfl rfl (by decide) k_Di_54 rfl rfl rfl (Nat.le_of_ble_eq_true rfl) ?_
      exact ax_vret G hr E d_Di_useTakenPrecision_13 rfl ⟨rfl, rfl⟩
  · rw [if_neg hx]
    refine ax_ofV (by decide) (Nat.le_of_ble_eq_true rfl) ?_
    intro p e s m args below meth c D cid ad A Qc G hr E
    refine ax_aload_n G d_Di_useTakenPrecision_0 rfl rfl ?_
    refine ax_iload_n G d_Di_useTakenPrecision_1 rfl rfl ?_
    refine ax_if_ge (tgt := 9) G d_Di_useTakenPrecision_2 (by decide) (fun c_2 => ?_) (fun c_2 => ?_)
    · refine ax_iload_n G d_Di_useTakenPrecision_9 rfl rfl ?_
      refine ax_put (ci := 1) (j := 7) G d_Di_useTakenPrecision_10 rfl rfl (by decide) k_Di_54 rfl rfl rfl (Nat.le_of_ble_eq_true rfl) ?_
      exact ax_vret G hr E d_Di_useTakenPrecision_13 rfl ⟨rfl, rfl⟩
    · exact absurd (Int32.not_lt.mp hx) c_2
end
section
/-! pure rows: rows of digits, rounding -/
def de_is (dg : Nat → Int32) (n : Nat) (d : Nat → Nat) : Prop := ∀ i, i < n → dg i = nI (d i) ∧ d i < 10
/-- the place behind the last digit that isn't 0 -/
def lnz (d : Nat → Nat) : Nat → Nat
  | 0 => 0
  | k + 1 => if d k = 0 then lnz d k else k + 1
theorem lnz_s (d : Nat → Nat) (k : Nat) : lnz d (k + 1) = if d k = 0 then lnz d k else k + 1 := rfl
theorem lnz_le (d : Nat → Nat) : ∀ k, lnz d k ≤ k
  | 0 => Nat.le_refl _
  | k + 1 => by rw [lnz_s]; have := lnz_le d k; split <;> omega
/-- how many digits from place z on are needed -/
def nf (d : Nat → Nat) (n : Nat) (z : Int) : Nat := if lnz d n = 0 ∨ (lnz d n : Int) ≤ z then 0 else ((lnz d n : Int) - z).toNat
/-- the place behind the last digit that isn't 9 -/
def ln9 (d : Nat → Nat) : Nat → Nat
  | 0 => 0
  | k + 1 => if d k < 9 then k + 1 else ln9 d k
theorem ln9_s (d : Nat → Nat) (k : Nat) : ln9 d (k + 1) = if d k < 9 then k + 1 else ln9 d k := rfl
theorem ln9_le (d : Nat → Nat) : ∀ k, ln9 d k ≤ k
  | 0 => Nat.le_refl _
  | k + 1 => by rw [ln9_s]; have := ln9_le d k; split <;> omega
theorem ln9_at (d : Nat → Nat) : ∀ k, 0 < ln9 d k → d (ln9 d k - 1) < 9
  | 0, h => absurd h (Nat.lt_irrefl 0)
  | k + 1, h => by
    rw [ln9_s] at h ⊢
    split
    · rename_i q; exact q
    · rename_i q; rw [if_neg q] at h; exact ln9_at d k h
def upN (d : Nat → Nat) (k x : Nat) : Nat → Nat := fun i => if i = k then x else d i
/-- one more in the last place of k digits: digits, how many, one place more before the point -/
def inc (d : Nat → Nat) (k : Nat) : (Nat → Nat) × Nat × Bool := if ln9 d k = 0 then (upN d 0 1, 1, true) else (upN d (ln9 d k - 1) (d (ln9 d k - 1) + 1), ln9 d k, false)
def ups (d : Nat → Nat) (n k : Nat) : Bool := if d k = 5 ∧ lnz d n ≤ k + 1 then decide (0 < k ∧ d (k - 1) % 2 = 1) else decide (5 ≤ d k)
/-- rounded to z digits: digits, how many, the point -/
def rnd (d : Nat → Nat) (n : Nat) (pt : Int32) (z : Int) : (Nat → Nat) × Nat × Int32 :=
  if (n : Int) ≤ z then (d, n, pt) else if z < 0 then (d, 0, 1) else if ups d n z.toNat then ((inc d z.toNat).1, (inc d z.toNat).2.1, if (inc d z.toNat).2.2 then pt + 1 else pt) else if z = 0 then (d, 0, 1) else (d, z.toNat, pt)
theorem i32_le (a b : Int32) : a ≤ b ↔ a.toInt ≤ b.toInt := Int32.le_iff_toInt_le
theorem i32_lt (a b : Int32) : a < b ↔ a.toInt < b.toInt := Int32.lt_iff_toInt_lt
theorem nIm1 (n : Nat) (h : n < 2 ^ 30) : (nI n - 1).toInt = (n : Int) - 1 := by
  rw [show nI n - 1 = nI n - nI 1 from rfl, pk_sub_toInt h (by decide)]
  rfl
/-- sums and differences of small ints -/
theorem i32_add (a b : Int32) (h1 : -1000000 ≤ a.toInt ∧ a.toInt ≤ 1000000) (h2 : -1000000 ≤ b.toInt ∧ b.toInt ≤ 1000000) : (a + b).toInt = a.toInt + b.toInt := by
  rw [Int32.toInt_add, Int.bmod_eq_of_le (by omega) (by omega)]
theorem i32_sub (a b : Int32) (h1 : -1000000 ≤ a.toInt ∧ a.toInt ≤ 1000000) (h2 : -1000000 ≤ b.toInt ∧ b.toInt ≤ 1000000) : (a - b).toInt = a.toInt - b.toInt := by
  rw [Int32.toInt_sub, Int.bmod_eq_of_le (by omega) (by omega)]
theorem i32_neg (a : Int32) (h1 : -1000000 ≤ a.toInt ∧ a.toInt ≤ 1000000) : (-a).toInt = -a.toInt := by
  rw [Int32.toInt_neg, Int.bmod_eq_of_le (by omega) (by omega)]
theorem i32_eq {a b : Int32} (h : a.toInt = b.toInt) : a = b := Int32.toInt_inj.mp h
end
section
/-! FormatDesk$Decimal: neededFrom, addOneAtTheEnd, round -/
set_option maxRecDepth 20000 in
set_option maxHeartbeats 1000000 in
theorem ct_De_neededFrom (l : Launch) (lc pt x : Int32) (n : Nat) (lm : Nat → Int64) (dg : Nat → Int32) (d : Nat → Nat) (hd : de_is dg n d) (hn : n ≤ 774) (hx : -100000 ≤ x.toInt ∧ x.toInt ≤ 100000) : ax_CT l y_De_neededFrom c_De_neededFrom 3 (some .int) 0 [.ref 9, .int x] (pc_De lc (nI n) pt lm dg) (fun r h => r = some (.int (nI (nf d n x.toInt))) ∧ h = pc_De lc (nI n) pt lm dg) := by
  refine ax_ofV (by decide) (Nat.le_of_ble_eq_true rfl) ?_
  intro p e s m args below meth c D cid ad A Qc G hr E
  have loop : ∀ (k : Nat), k ≤ n → lnz d k = lnz d n → ax_V p l e (ax_rm 0) s m args below meth c D cid ad A 3 0 0 (MQ below Qc args s 0 0 A) 7 [(0, .ref 9), (1, .int x), (2, .int (nI k - 1))] [] (pc_De lc (nI n) pt lm dg) := by
    intro k
    induction k with
    | zero =>
      intro hk he
      refine ax_iload_n G d_De_neededFrom_7 rfl rfl ?_
      refine ax_if_lt (tgt := 37) G d_De_neededFrom_8 (by decide) (fun c_8 => ?_) (fun c_8 => ?_)
      · refine ax_iconst (v := 0) G d_De_neededFrom_37 (by decide) ?_
        exact ax_iret G hr E d_De_neededFrom_38 rfl ⟨by have he0 : lnz d n = 0 := he.symm; unfold nf; rw [if_pos (Or.inl he0)]; rfl, rfl⟩
      · exact absurd (by decide) c_8
    | succ k ih =>
      intro hk he
      obtain ⟨e1, e2⟩ := hd k (by omega)
      rw [nI_pred]
      refine ax_iload_n G d_De_neededFrom_7 rfl rfl ?_
      refine ax_if_lt (tgt := 37) G d_De_neededFrom_8 (by decide) (fun c_8 => ?_) (fun c_8 => ?_)
      · exact absurd c_8 (nI_pos (by omega))
      · refine ax_iload_n G d_De_neededFrom_11 rfl rfl ?_
        refine ax_iload_n G d_De_neededFrom_12 rfl rfl ?_
        refine ax_icmp_lt (tgt := 37) G d_De_neededFrom_13 (by decide) (fun c_13 => ?_) (fun c_13 => ?_)
        · have hlt : (k : Int) < x.toInt := by rw [i32_lt, nI_toInt (by omega)] at c_13; exact c_13
          have hl := lnz_le d (k + 1)
          refine ax_iconst (v := 0) G d_De_neededFrom_37 (by decide) ?_
          exact ax_iret G hr E d_De_neededFrom_38 rfl ⟨by unfold nf; rw [if_pos (Or.inr (by rw [← he]; omega))]; rfl, rfl⟩
        · have hge : x.toInt ≤ (k : Int) := by rw [i32_lt, nI_toInt (by omega)] at c_13; omega
          refine ax_aload_n G d_De_neededFrom_16 rfl rfl ?_
          refine ax_get (ci := 0) (j := 2) G d_De_neededFrom_17 rfl rfl (by decide) k_De_17 rfl ?_
          refine ax_iload_n G d_De_neededFrom_20 rfl rfl ?_
          refine ax_bald G d_De_neededFrom_21 rfl (vp_in_nI (by omega) (by omega)) ?_
          rw [nI_clamp (by omega), e1]
          rw [lnz_s] at he
          have hz : nI (d k) = 0 ↔ d k = 0 := by
            have := nI_eq (a := d k) (b := 0) (by omega) (by decide)
            rw [nI_0] at this; exact this
          refine ax_if_eq (tgt := 31) G d_De_neededFrom_22 (by decide) (fun c_22 => ?_) (fun c_22 => ?_)
          · rw [if_pos (hz.mp c_22)] at he
            refine ax_iincZ (z := (-1)) G d_De_neededFrom_31 rfl (by decide) (by decide) ?_
            refine ax_goto (tgt := 7) G d_De_neededFrom_34 (by decide) ?_
            rw [addm1]
            exact ih (by omega) he
          · rw [if_neg (fun q => c_22 (hz.mpr q))] at he
            refine ax_iload_n G d_De_neededFrom_25 rfl rfl ?_
            refine ax_iconst (v := 1) G d_De_neededFrom_26 (by decide) ?_
            refine ax_iadd G d_De_neededFrom_27 ?_
            refine ax_iload_n G d_De_neededFrom_28 rfl rfl ?_
            refine ax_isub G d_De_neededFrom_29 ?_
            have e3 : nI k + 1 - x = nI (nf d n x.toInt) := by
              apply i32_eq
              unfold nf
              rw [← he, if_neg (by omega), nI_1, i32_sub _ _ (by rw [nI_toInt (by omega)]; omega) (by omega), nI_toInt (by omega), nI_toInt (by omega)]
              omega
            rw [e3]
            exact ax_iret G hr E d_De_neededFrom_30 rfl ⟨rfl, rfl⟩
  refine ax_aload_n G d_De_neededFrom_0 rfl rfl ?_
  refine ax_get (ci := 0) (j := 3) G d_De_neededFrom_1 rfl rfl (by decide) k_De_21 rfl ?_
  refine ax_iconst (v := 1) G d_De_neededFrom_4 (by decide) ?_
  refine ax_isub G d_De_neededFrom_5 ?_
  refine ax_istore_n G d_De_neededFrom_6 rfl (by decide) ?_
  exact loop n (Nat.le_refl _) rfl
set_option maxRecDepth 20000 in
set_option maxHeartbeats 1000000 in
theorem ct_De_addOneAtTheEnd (l : Launch) (lc pt : Int32) (n : Nat) (lm : Nat → Int64) (dg : Nat → Int32) (d : Nat → Nat) (hd : de_is dg n d) (hn : n ≤ 774) : ax_CT l y_De_addOneAtTheEnd c_De_addOneAtTheEnd 2 none 0 [.ref 9] (pc_De lc (nI n) pt lm dg) (fun r h => r = none ∧ ∃ dg', h = pc_De lc (nI (inc d n).2.1) (if (inc d n).2.2 then pt + 1 else pt) lm dg' ∧ de_is dg' (inc d n).2.1 (inc d n).1 ∧ (inc d n).2.1 ≤ 774) := by
  refine ax_ofV (by decide) (Nat.le_of_ble_eq_true rfl) ?_
  intro p e s m args below meth c D cid ad A Qc G hr E
  have loop : ∀ (k : Nat), k ≤ n → ln9 d k = ln9 d n → ax_V p l e (ax_rm 0) s m args below meth c D cid ad A 2 0 0 (MQ below Qc args s 0 0 A) 7 [(0, .ref 9), (1, .int (nI k - 1))] [] (pc_De lc (nI n) pt lm dg) := by
    intro k
    induction k with
    | zero =>
      intro hk he
      have e1 : inc d n = (upN d 0 1, 1, true) := by have he0 : ln9 d n = 0 := he.symm; unfold inc; rw [if_pos he0]
      refine ax_iload_n G d_De_addOneAtTheEnd_7 rfl rfl ?_
      refine ax_if_lt (tgt := 47) G d_De_addOneAtTheEnd_8 (by decide) (fun c_8 => ?_) (fun c_8 => ?_)
      · refine ax_aload_n G d_De_addOneAtTheEnd_47 rfl rfl ?_
        refine ax_get (ci := 0) (j := 2) G d_De_addOneAtTheEnd_48 rfl rfl (by decide) k_De_17 rfl ?_
        refine ax_iconst (v := 0) G d_De_addOneAtTheEnd_51 (by decide) ?_
        refine ax_iconst (v := 1) G d_De_addOneAtTheEnd_52 (by decide) ?_
        refine ax_bast G d_De_addOneAtTheEnd_53 rfl (vp_in_nI (n := 0) (by decide) (by decide)) ?_
        refine ax_aload_n G d_De_addOneAtTheEnd_54 rfl rfl ?_
        refine ax_iconst (v := 1) G d_De_addOneAtTheEnd_55 (by decide) ?_
        refine ax_put (ci := 0) (j := 3) G d_De_addOneAtTheEnd_56 rfl rfl (by decide) k_De_21 rfl rfl rfl (Nat.le_of_ble_eq_true rfl) ?_
        refine ax_aload_n G d_De_addOneAtTheEnd_59 rfl rfl ?_
        refine ax_dup G d_De_addOneAtTheEnd_60 rfl ?_
        refine ax_get (ci := 0) (j := 4) G d_De_addOneAtTheEnd_61 rfl rfl (by decide) k_De_24 rfl ?_
        refine ax_iconst (v := 1) G d_De_addOneAtTheEnd_64 (by decide) ?_
        refine ax_iadd G d_De_addOneAtTheEnd_65 ?_
        refine ax_put (ci := 0) (j := 4) G d_De_addOneAtTheEnd_66 rfl rfl (by decide) k_De_24 rfl rfl rfl (Nat.le_of_ble_eq_true rfl) ?_
        refine ax_vret G hr E d_De_addOneAtTheEnd_69 rfl ⟨rfl, _, by rw [e1] <;> rfl, ?_, by rw [e1]; exact Nat.le_of_ble_eq_true rfl⟩
        rw [e1]
        intro i hi
        have e : i = 0 := by have : i < 1 := hi; omega
        subst e
        exact ⟨rfl, show (1 : Nat) < 10 by decide⟩
      · exact absurd (by decide) c_8
    | succ k ih =>
      intro hk he
      obtain ⟨e1, e2⟩ := hd k (by omega)
      rw [ln9_s] at he
      rw [nI_pred]
      refine ax_iload_n G d_De_addOneAtTheEnd_7 rfl rfl ?_
      refine ax_if_lt (tgt := 47) G d_De_addOneAtTheEnd_8 (by decide) (fun c_8 => ?_) (fun c_8 => ?_)
      · exact absurd c_8 (nI_pos (by omega))
      · refine ax_aload_n G d_De_addOneAtTheEnd_11 rfl rfl ?_
        refine ax_get (ci := 0) (j := 2) G d_De_addOneAtTheEnd_12 rfl rfl (by decide) k_De_17 rfl ?_
        refine ax_iload_n G d_De_addOneAtTheEnd_15 rfl rfl ?_
        refine ax_bald G d_De_addOneAtTheEnd_16 rfl (vp_in_nI (by omega) (by omega)) ?_
        rw [nI_clamp (by omega), e1]
        refine ax_bipush (v := 9) G d_De_addOneAtTheEnd_17 (by decide) ?_
        refine ax_icmp_ge (tgt := 41) G d_De_addOneAtTheEnd_19 (by decide) (fun c_19 => ?_) (fun c_19 => ?_)
        · have h9 : ¬ d k < 9 := by have := (nI_leI (a := 9) (by decide) (by omega)).mp c_19; omega
          rw [if_neg h9] at he
          refine ax_iincZ (z := (-1)) G d_De_addOneAtTheEnd_41 rfl (by decide) (by decide) ?_
          refine ax_goto (tgt := 7) G d_De_addOneAtTheEnd_44 (by decide) ?_
          rw [addm1]
          exact ih (by omega) he
        · have h9 : d k < 9 := by
            rcases Nat.lt_or_ge (d k) 9 with q | q
            · exact q
            · exact absurd (nI_le (a := 9) q (by omega)) c_19
          rw [if_pos h9] at he
          have e3 : inc d n = (upN d k (d k + 1), k + 1, false) := by
            unfold inc
            rw [if_neg (by omega), ← he]
            rfl
          refine ax_aload_n G d_De_addOneAtTheEnd_22 rfl rfl ?_
          refine ax_get (ci := 0) (j := 2) G d_De_addOneAtTheEnd_23 rfl rfl (by decide) k_De_17 rfl ?_
          refine ax_iload_n G d_De_addOneAtTheEnd_26 rfl rfl ?_
          refine ax_dup2_11 G d_De_addOneAtTheEnd_27 rfl rfl ?_
          refine ax_bald G d_De_addOneAtTheEnd_28 rfl (vp_in_nI (by omega) (by omega)) ?_
          rw [nI_clamp (by omega), e1]
          refine ax_iconst (v := 1) G d_De_addOneAtTheEnd_29 (by decide) ?_
          refine ax_iadd G d_De_addOneAtTheEnd_30 ?_
          rw [nI_1]
          refine ax_i2b G d_De_addOneAtTheEnd_31 ?_
          refine ax_bast G d_De_addOneAtTheEnd_32 rfl (vp_in_nI (by omega) (by omega)) ?_
          rw [nI_clamp (by omega)]
          refine ax_aload_n G d_De_addOneAtTheEnd_33 rfl rfl ?_
          refine ax_iload_n G d_De_addOneAtTheEnd_34 rfl rfl ?_
          refine ax_iconst (v := 1) G d_De_addOneAtTheEnd_35 (by decide) ?_
          refine ax_iadd G d_De_addOneAtTheEnd_36 ?_
          refine ax_put (ci := 0) (j := 3) G d_De_addOneAtTheEnd_37 rfl rfl (by decide) k_De_21 rfl rfl rfl (Nat.le_of_ble_eq_true rfl) ?_
          rw [nI_1]
          refine ax_vret G hr E d_De_addOneAtTheEnd_40 rfl ⟨rfl, _, by rw [e3] <;> rfl, ?_, by rw [e3]; show k + 1 ≤ 774; omega⟩
          rw [e3]
          intro i hi
          have hi : i < k + 1 := hi
          show upd _ _ _ _ = nI (upN d k (d k + 1) i) ∧ upN d k (d k + 1) i < 10
          by_cases hik : i = k
          · subst hik
            rw [pk_us, pk_vb, by_nI (by omega)]
            unfold upN
            rw [if_pos rfl]
            exact ⟨rfl, by omega⟩
          · rw [pk_un hik]
            unfold upN
            rw [if_neg hik]
            exact hd i (by omega)
  refine ax_aload_n G d_De_addOneAtTheEnd_0 rfl rfl ?_
  refine ax_get (ci := 0) (j := 3) G d_De_addOneAtTheEnd_1 rfl rfl (by decide) k_De_21 rfl ?_
  refine ax_iconst (v := 1) G d_De_addOneAtTheEnd_4 (by decide) ?_
  refine ax_isub G d_De_addOneAtTheEnd_5 ?_
  refine ax_istore_n G d_De_addOneAtTheEnd_6 rfl (by decide) ?_
  exact loop n (Nat.le_refl _) rfl
set_option maxRecDepth 20000 in
set_option maxHeartbeats 1000000 in
theorem ct_De_round (l : Launch) (lc pt x : Int32) (n : Nat) (lm : Nat → Int64) (dg : Nat → Int32) (d : Nat → Nat) (hd : de_is dg n d) (hn : n ≤ 774) (hx : -100000 ≤ x.toInt ∧ x.toInt ≤ 100000) : ax_CT l y_De_round c_De_round 5 none 1 [.ref 9, .int x] (pc_De lc (nI n) pt lm dg) (fun r h => r = none ∧ ∃ dg', h = pc_De lc (nI (rnd d n pt x.toInt).2.1) (rnd d n pt x.toInt).2.2 lm dg' ∧ de_is dg' (rnd d n pt x.toInt).2.1 (rnd d n pt x.toInt).1 ∧ (rnd d n pt x.toInt).2.1 ≤ 774) := by
  refine ax_ofV (by decide) (Nat.le_of_ble_eq_true rfl) ?_
  intro p e s m args below meth c D cid ad A Qc G hr E
  refine ax_iload_n G d_De_round_0 rfl rfl ?_
  refine ax_aload_n G d_De_round_1 rfl rfl ?_
  refine ax_get (ci := 0) (j := 3) G d_De_round_2 rfl rfl (by decide) k_De_21 rfl ?_
  refine ax_icmp_lt (tgt := 9) G d_De_round_5 (by decide) (fun c_5 => ?_) (fun c_5 => ?_)
  · have h1 : ¬ (n : Int) ≤ x.toInt := by rw [i32_lt, nI_toInt (by omega)] at c_5; omega
    refine ax_iload_n G d_De_round_9 rfl rfl ?_
    refine ax_if_ge (tgt := 18) G d_De_round_10 (by decide) (fun c_10 => ?_) (fun c_10 => ?_)
    · have h2 : ¬ x.toInt < 0 := by rw [i32_le] at c_10; exact Int.not_lt.mpr c_10
      obtain ⟨k, hk, rfl⟩ := nI_of (x := x) (by rw [i32_lt]; exact h2)
      have ek : (nI k).toInt = (k : Int) := nI_toInt hk
      rw [ek] at E h1 h2 hx
      have hkn : k < n := by omega
      obtain ⟨e1, e2⟩ := hd k hkn
      have hdk : de_is dg k d := fun i hi => hd i (by omega)
      -- behind the decision
      have tail : ∀ (z : Bool) (x3 : Int32), z = ups d n k → ax_V p l e (ax_rm 1) s m args below meth c D cid ad A 5 0 0 (MQ below Qc args s 0 0 A) 81 [(0, .ref 9), (1, .int (nI k)), (2, .int (nI (d k))), (3, .int x3)] [.int (zb z)] (pc_De lc (nI n) pt lm dg) := by
        intro z x3 hz
        cases z with
        | true =>
          have er : rnd d n pt k = ((inc d k).1, (inc d k).2.1, if (inc d k).2.2 then pt + 1 else pt) := by
            unfold rnd; rw [if_neg h1, if_neg h2, Int.toNat_natCast, ← hz, if_pos rfl]
          refine ax_istore G d_De_round_81 (by decide) ?_
          refine ax_aload_n G d_De_round_83 rfl rfl ?_
          refine ax_iload_n G d_De_round_84 rfl rfl ?_
          refine ax_put (ci := 0) (j := 3) G d_De_round_85 rfl rfl (by decide) k_De_21 rfl rfl rfl (Nat.le_of_ble_eq_true rfl) ?_
          refine ax_iload G d_De_round_88 rfl ?_
          refine ax_if_eq (tgt := 100) G d_De_round_90 (by decide) (fun c_90 => ?_) (fun c_90 => ?_)
          · exact absurd c_90 (by decide)
          · refine ax_aload_n G d_De_round_93 rfl rfl ?_
            refine ax_callV (n := 0) G (ct_De_addOneAtTheEnd l lc pt k lm dg d hdk (by omega)) d_De_round_94 rfl ⟨rfl, rfl, rfl, trivial⟩ rfl rfl rfl kc_De_addOneAtTheEnd ⟨k_De_57, ki_De_addOneAtTheEnd, ks_De_addOneAtTheEnd, kk_De⟩ (by decide +kernel) rfl ⟨by decide, by decide⟩ (Nat.le_of_ble_eq_true rfl) ⟨by decide, by decide⟩ (fun r hc_ hq hk_ => ?_)
            obtain ⟨rfl, dg2, rfl, h3, h4⟩ := hq
            refine ax_goto (tgt := 108) G d_De_round_97 (by decide) ?_
            exact ax_vret G hr E d_De_round_108 rfl ⟨rfl, dg2, by rw [er] <;> rfl, by rw [er]; exact h3, by rw [er]; exact h4⟩
        | false =>
          refine ax_istore G d_De_round_81 (by decide) ?_
          refine ax_aload_n G d_De_round_83 rfl rfl ?_
          refine ax_iload_n G d_De_round_84 rfl rfl ?_
          refine ax_put (ci := 0) (j := 3) G d_De_round_85 rfl rfl (by decide) k_De_21 rfl rfl rfl (Nat.le_of_ble_eq_true rfl) ?_
          refine ax_iload G d_De_round_88 rfl ?_
          refine ax_if_eq (tgt := 100) G d_De_round_90 (by decide) (fun c_90 => ?_) (fun c_90 => ?_)
          · refine ax_iload_n G d_De_round_100 rfl rfl ?_
            refine ax_if_ne (tgt := 108) G d_De_round_101 (by decide) (fun c_101 => ?_) (fun c_101 => ?_)
            · have hk0 : ¬ (k : Int) = 0 := fun q => c_101 (by rw [show k = 0 by omega]; rfl)
              have er : rnd d n pt k = (d, k, pt) := by
                unfold rnd; rw [if_neg h1, if_neg h2, Int.toNat_natCast, ← hz, if_neg (by decide), if_neg hk0]
              exact ax_vret G hr E d_De_round_108 rfl ⟨rfl, dg, by rw [er] <;> rfl, by rw [er]; exact hdk, by rw [er]; show k ≤ 774; omega⟩
            · have hk0 : k = 0 := (nI_eq (a := k) (b := 0) hk (by decide)).mp c_101
              subst hk0
              have er : rnd d n pt (0 : Nat) = (d, 0, 1) := by
                unfold rnd; rw [if_neg h1, if_neg h2, Int.toNat_natCast, ← hz, if_neg (by decide), if_pos (by omega)]
              refine ax_aload_n G d_De_round_104 rfl rfl ?_
              refine ax_callV (n := 0) G (ct_De_becomeZero l lc (nI 0) pt lm dg) d_De_round_105 rfl ⟨rfl, rfl, rfl, trivial⟩ rfl rfl rfl kc_De_becomeZero ⟨k_De_27, ki_De_becomeZero, ks_De_becomeZero, kk_De⟩ (by decide +kernel) rfl ⟨by decide, by decide⟩ (Nat.le_of_ble_eq_true rfl) ⟨by decide, by decide⟩ (fun r hc_ hq hk_ => ?_)
              obtain ⟨rfl, rfl⟩ := hq
              exact ax_vret G hr E d_De_round_108 rfl ⟨rfl, dg, by rw [er] <;> rfl, by rw [er]; exact fun i hi => absurd hi (Nat.not_lt_zero i), by rw [er]; exact Nat.le_of_ble_eq_true rfl⟩
          · exact absurd rfl c_90
      refine ax_aload_n G d_De_round_18 rfl rfl ?_
      refine ax_get (ci := 0) (j := 2) G d_De_round_19 rfl rfl (by decide) k_De_17 rfl ?_
      refine ax_iload_n G d_De_round_22 rfl rfl ?_
      refine ax_bald G d_De_round_23 rfl (vp_in_nI (by omega) (by omega)) ?_
      rw [nI_clamp (by omega), e1]
      have notHalf : ¬ (d k = 5 ∧ lnz d n ≤ k + 1) → ax_V p l e (ax_rm 1) s m args below meth c D cid ad A 5 0 0 (MQ below Qc args s 0 0 A) 44 [(0, .ref 9), (1, .int (nI k)), (2, .int (nI (d k)))] [] (pc_De lc (nI n) pt lm dg) := by
        intro hh
        refine ax_iconst (v := 0) G d_De_round_44 (by decide) ?_
        refine ax_istore_n G d_De_round_45 rfl (by decide) ?_
        refine ax_iload_n G d_De_round_46 rfl rfl ?_
        refine ax_if_eq (tgt := 71) G d_De_round_47 (by decide) (fun c_47 => ?_) (fun c_47 => ?_)
        · refine ax_iload_n G d_De_round_71 rfl rfl ?_
          refine ax_iconst (v := 5) G d_De_round_72 (by decide) ?_
          refine ax_icmp_lt (tgt := 80) G d_De_round_73 (by decide) (fun c_73 => ?_) (fun c_73 => ?_)
          · have h5 : ¬ 5 ≤ d k := by have := (nI_ltI (b := 5) (by omega) (by decide)).mp c_73; omega
            refine ax_iconst (v := 0) G d_De_round_80 (by decide) ?_
            exact tail false _ (by unfold ups; rw [if_neg hh]; exact (decide_eq_false h5).symm)
          · have h5 : 5 ≤ d k := by
              rcases Nat.lt_or_ge (d k) 5 with q | q
              · exact absurd ((nI_ltI (b := 5) (by omega) (by decide)).mpr q) c_73
              · exact q
            refine ax_iconst (v := 1) G d_De_round_76 (by decide) ?_
            refine ax_goto (tgt := 81) G d_De_round_77 (by decide) ?_
            exact tail true _ (by unfold ups; rw [if_neg hh]; exact (decide_eq_true h5).symm)
        · exact absurd rfl c_47
      refine ax_istore_n G d_De_round_24 rfl (by decide) ?_
      refine ax_iload_n G d_De_round_25 rfl rfl ?_
      refine ax_iconst (v := 5) G d_De_round_26 (by decide) ?_
      refine ax_icmp_ne (tgt := 44) G d_De_round_27 (by decide) (fun c_27 => ?_) (fun c_27 => ?_)
      · have h5 : ¬ d k = 5 := fun q => c_27 (by rw [q]; rfl)
        exact notHalf (fun q => h5 q.1)
      · have h5 : d k = 5 := (nI_eq (b := 5) (by omega) (by decide)).mp c_27
        refine ax_aload_n G d_De_round_30 rfl rfl ?_
        refine ax_iload_n G d_De_round_31 rfl rfl ?_
        refine ax_iconst (v := 1) G d_De_round_32 (by decide) ?_
        refine ax_iadd G d_De_round_33 ?_
        rw [nI_1]
        refine ax_callV (n := 1) G (ct_De_neededFrom l lc pt (nI (k + 1)) n lm dg d hd hn (by rw [nI_toInt (by omega)]; omega)) d_De_round_34 rfl ⟨rfl, rfl, rfl, trivial⟩ rfl rfl rfl kc_De_neededFrom ⟨k_De_50, ki_De_neededFrom, ks_De_neededFrom, kk_De⟩ (by decide +kernel) rfl ⟨by decide, by decide⟩ (Nat.le_of_ble_eq_true rfl) ⟨by decide, by decide⟩ (fun r hc_ hq hk_ => ?_)
        obtain ⟨rfl, rfl⟩ := hq
        have hnf : nI (nf d n (nI (k + 1)).toInt) = 0 ↔ lnz d n ≤ k + 1 := by
          rw [nI_toInt (by omega)]
          have hl := lnz_le d n
          have := nI_eq (a := nf d n ((k + 1 : Nat) : Int)) (b := 0) (by unfold nf; split <;> omega) (by decide)
          rw [nI_0] at this
          rw [this]
          unfold nf
          split <;> omega
        refine ax_if_ne (tgt := 44) G d_De_round_37 (by decide) (fun c_37 => ?_) (fun c_37 => ?_)
        · exact notHalf (fun q => c_37 (hnf.mpr q.2))
        · have hh : d k = 5 ∧ lnz d n ≤ k + 1 := ⟨h5, hnf.mp c_37⟩
          refine ax_iconst (v := 1) G d_De_round_40 (by decide) ?_
          refine ax_goto (tgt := 45) G d_De_round_41 (by decide) ?_
          refine ax_istore_n G d_De_round_45 rfl (by decide) ?_
          refine ax_iload_n G d_De_round_46 rfl rfl ?_
          refine ax_if_eq (tgt := 71) G d_De_round_47 (by decide) (fun c_47 => ?_) (fun c_47 => ?_)
          · exact absurd c_47 (by decide)
          · refine ax_aload_n G d_De_round_50 rfl rfl ?_
            refine ax_iload_n G d_De_round_51 rfl rfl ?_
            refine ax_iconst (v := 1) G d_De_round_52 (by decide) ?_
            refine ax_isub G d_De_round_53 ?_
            refine ax_callV (n := 1) G (ct_De_digitAt l lc pt (nI k - 1) n lm dg hn) d_De_round_54 rfl ⟨rfl, rfl, rfl, trivial⟩ rfl rfl rfl kc_De_digitAt ⟨k_De_54, ki_De_digitAt, ks_De_digitAt, kk_De⟩ (by decide +kernel) rfl ⟨by decide, by decide⟩ (Nat.le_of_ble_eq_true rfl) ⟨by decide, by decide⟩ (fun r hc_ hq hk_ => ?_)
            obtain ⟨rfl, rfl⟩ := hq
            refine ax_iconst (v := 2) G d_De_round_57 (by decide) ?_
            refine ax_irem G d_De_round_58 (by decide) ?_
            by_cases hk0 : k = 0
            · subst hk0
              have e7 : (if ¬ nI 0 - 1 < 0 ∧ nI 0 - 1 < nI n then dg (nI 0 - 1).toNatClampNeg else 0) = (0 : Int32) := if_neg (fun q => q.1 (by decide))
              rw [e7]
              refine ax_iconst (v := 1) G d_De_round_59 (by decide) ?_
              refine ax_icmp_ne (tgt := 67) G d_De_round_60 (by decide) (fun c_60 => ?_) (fun c_60 => ?_)
              · refine ax_iconst (v := 0) G d_De_round_67 (by decide) ?_
                refine ax_goto (tgt := 81) G d_De_round_68 (by decide) ?_
                exact tail false _ (by unfold ups; rw [if_pos hh]; rfl)
              · exact absurd c_60 (by decide)
            · obtain ⟨j, rfl⟩ : ∃ j, k = j + 1 := ⟨k - 1, by omega⟩
              obtain ⟨g1, g2⟩ := hd j (by omega)
              have e7 : (if ¬ nI (j + 1) - 1 < 0 ∧ nI (j + 1) - 1 < nI n then dg (nI (j + 1) - 1).toNatClampNeg else 0) = nI (d j) := by
                rw [nI_pred, if_pos ⟨nI_pos (by omega), nI_lt (by omega) (by omega)⟩, nI_clamp (by omega), g1]
              rw [e7]
              have e8 : nI (d j) - nI (d j) / 2 * 2 = nI (d j % 2) := pk_rem (d := 2) (by omega) (by decide) (by decide)
              rw [e8]
              refine ax_iconst (v := 1) G d_De_round_59 (by decide) ?_
              refine ax_icmp_ne (tgt := 67) G d_De_round_60 (by decide) (fun c_60 => ?_) (fun c_60 => ?_)
              · have hne : ¬ d j % 2 = 1 := fun q => c_60 (by rw [q]; rfl)
                refine ax_iconst (v := 0) G d_De_round_67 (by decide) ?_
                refine ax_goto (tgt := 81) G d_De_round_68 (by decide) ?_
                exact tail false _ (by unfold ups; rw [if_pos hh]; exact (decide_eq_false (fun q => hne q.2)).symm)
              · have heq : d j % 2 = 1 := (nI_eq (b := 1) (by omega) (by decide)).mp c_60
                refine ax_iconst (v := 1) G d_De_round_63 (by decide) ?_
                refine ax_goto (tgt := 81) G d_De_round_64 (by decide) ?_
                exact tail true _ (by unfold ups; rw [if_pos hh]; exact (decide_eq_true ⟨by omega, heq⟩).symm)
    · have h2 : x.toInt < 0 := by rw [i32_le] at c_10; exact Int.not_le.mp c_10
      have er : rnd d n pt x.toInt = (d, 0, 1) := by unfold rnd; rw [if_neg h1, if_pos h2]
      refine ax_aload_n G d_De_round_13 rfl rfl ?_
      refine ax_callV (n := 0) G (ct_De_becomeZero l lc (nI n) pt lm dg) d_De_round_14 rfl ⟨rfl, rfl, rfl, trivial⟩ rfl rfl rfl kc_De_becomeZero ⟨k_De_27, ki_De_becomeZero, ks_De_becomeZero, kk_De⟩ (by decide +kernel) rfl ⟨by decide, by decide⟩ (Nat.le_of_ble_eq_true rfl) ⟨by decide, by decide⟩ (fun r hc_ hq hk_ => ?_)
      obtain ⟨rfl, rfl⟩ := hq
      exact ax_vret G hr E d_De_round_17 rfl ⟨rfl, dg, by rw [er] <;> rfl, by rw [er]; exact fun i hi => absurd hi (Nat.not_lt_zero i), by rw [er]; exact Nat.le_of_ble_eq_true rfl⟩
  · have h1 : (n : Int) ≤ x.toInt := by rw [i32_lt, nI_toInt (by omega)] at c_5; omega
    have er : rnd d n pt x.toInt = (d, n, pt) := by unfold rnd; rw [if_pos h1]
    exact ax_vret G hr E d_De_round_8 rfl ⟨rfl, dg, by rw [er] <;> rfl, by rw [er]; exact hd, by rw [er]; exact hn⟩
end
section
/-! pure rows: large numbers in limbs of 10^9 -/
def lb : Nat := 1000000000
def lval (a : Nat → Nat) : Nat → Nat
  | 0 => 0
  | k + 1 => lval a k + a k * lb ^ k
theorem lval_s (a : Nat → Nat) (k : Nat) : lval a (k + 1) = lval a k + a k * lb ^ k := rfl
theorem lval_lt (a : Nat → Nat) : ∀ k, (∀ i, i < k → a i < lb) → lval a k < lb ^ k
  | 0, _ => Nat.lt_succ_self 0
  | k + 1, h => by
    have h1 := lval_lt a k (fun i hi => h i (by omega))
    have h2 : a k + 1 ≤ lb := h k (Nat.lt_succ_self k)
    rw [lval_s, Nat.pow_succ]
    have h3 : (a k + 1) * lb ^ k ≤ lb * lb ^ k := Nat.mul_le_mul_right _ h2
    rw [Nat.add_mul, Nat.one_mul] at h3
    rw [Nat.mul_comm (lb ^ k) lb]
    omega
theorem lval_eq (a b : Nat → Nat) : ∀ k, (∀ i, i < k → a i = b i) → lval a k = lval b k
  | 0, _ => rfl
  | k + 1, h => by rw [lval_s, lval_s, lval_eq a b k (fun i hi => h i (by omega)), h k (Nat.lt_succ_self k)]
/-- the limb j of the whole -/
theorem lval_at (a : Nat → Nat) : ∀ k, (∀ i, i < k → a i < lb) → ∀ j, j < k → lval a k / lb ^ j % lb = a j
  | 0, _, j, hj => absurd hj (Nat.not_lt_zero j)
  | k + 1, h, j, hj => by
    have hp : 0 < lb ^ j := Nat.pow_pos (by decide)
    rw [lval_s]
    by_cases hjk : j = k
    · subst hjk
      rw [Nat.add_mul_div_right _ _ hp, Nat.div_eq_of_lt (lval_lt a j (fun i hi => h i (by omega))), Nat.zero_add]
      exact Nat.mod_eq_of_lt (h j (Nat.lt_succ_self j))
    · obtain ⟨t, rfl⟩ : ∃ t, k = j + 1 + t := ⟨k - (j + 1), by omega⟩
      have e1 : a (j + 1 + t) * lb ^ (j + 1 + t) = (a (j + 1 + t) * lb ^ t * lb) * lb ^ j := by
        rw [Nat.pow_add, Nat.pow_add, Nat.pow_one]
        simp only [Nat.mul_assoc, Nat.mul_comm, Nat.mul_left_comm]
      rw [e1, Nat.add_mul_div_right _ _ hp, Nat.add_mul_mod_self_right]
      exact lval_at a (j + 1 + t) (fun i hi => h i (by omega)) j (by omega)
/-- a digit of the whole by its limb -/
theorem lval_dig (a : Nat → Nat) (k : Nat) (h : ∀ i, i < k → a i < lb) (i : Nat) (hi : i / 9 < k) : lval a k / 10 ^ i % 10 = a (i / 9) / 10 ^ (i % 9) % 10 := by
  have e1 : 10 ^ i = lb ^ (i / 9) * 10 ^ (i % 9) := by
    rw [show lb = 10 ^ 9 from rfl, ← Nat.pow_mul, ← Nat.pow_add, Nat.div_add_mod]
  rw [e1, ← Nat.div_div_eq_div_mul]
  have e2 := lval_at a k h (i / 9) hi
  rw [← e2]
  generalize lval a k / lb ^ (i / 9) = x
  have h9 : i % 9 < 9 := Nat.mod_lt _ (by decide)
  generalize i % 9 = r at h9
  have e3 : lb = 10 ^ r * (10 ^ (8 - r) * 10) := by
    rw [show lb = 10 ^ 9 from rfl, ← Nat.pow_succ, ← Nat.pow_add]
    congr 1
    omega
  rw [e3, Nat.mod_mul_right_div_self, Nat.mod_mul_left_mod]
/-- the decimal digits of N: n of them, the highest first -/
def dgs (N n : Nat) (i : Nat) : Nat := N / 10 ^ (n - 1 - i) % 10
def isN (N n : Nat) : Prop := 0 < n ∧ 10 ^ (n - 1) ≤ N ∧ N < 10 ^ n
theorem isN_eq {N a b : Nat} (h1 : isN N a) (h2 : isN N b) : a = b := by
  rcases Nat.lt_trichotomy a b with h | h | h
  · have : 10 ^ a ≤ 10 ^ (b - 1) := Nat.pow_le_pow_right (by decide) (by omega)
    have := h1.2.2; have := h2.2.1; omega
  · exact h
  · have : 10 ^ b ≤ 10 ^ (a - 1) := Nat.pow_le_pow_right (by decide) (by omega)
    have := h2.2.2; have := h1.2.1; omega
/-- how many digits a limb has -/
def dg10 : Nat → Nat → Nat
  | 0, _ => 0
  | k + 1, x => if x = 0 then 0 else 1 + dg10 k (x / 10)
theorem dg10_s (k x : Nat) : dg10 (k + 1) x = if x = 0 then 0 else 1 + dg10 k (x / 10) := rfl
theorem dg10_is : ∀ (k x : Nat), 0 < x → x < 10 ^ k → isN x (dg10 k x)
  | 0, x, h1, h2 => by have : x < 1 := h2; omega
  | k + 1, x, h1, h2 => by
    rw [dg10_s, if_neg (by omega)]
    by_cases hx : x < 10
    · have e : x / 10 = 0 := Nat.div_eq_of_lt hx
      have e2 : dg10 k (x / 10) = 0 := by rw [e]; cases k <;> rfl
      rw [e2]
      exact ⟨by decide, by show 10 ^ 0 ≤ x; exact h1, by show x < 10 ^ 1; omega⟩
    · have h3 : x / 10 < 10 ^ k := by rw [Nat.div_lt_iff_lt_mul (by decide)]; rw [Nat.pow_succ] at h2; exact h2
      obtain ⟨g1, g2, g3⟩ := dg10_is k (x / 10) (by omega) h3
      generalize dg10 k (x / 10) = q at *
      refine ⟨by omega, ?_, ?_⟩
      · obtain ⟨t, rfl⟩ : ∃ t, q = t + 1 := ⟨q - 1, by omega⟩
        rw [show 1 + (t + 1) - 1 = t + 1 by omega, Nat.pow_succ]
        rw [show t + 1 - 1 = t by omega] at g2
        omega
      · rw [Nat.add_comm 1 q, Nat.pow_succ]
        omega
/-- the whole's digits out of the top limb's -/
theorem isN_lval (a : Nat → Nat) (k t : Nat) (h : ∀ i, i < k + 1 → a i < lb) (ht : isN (a k) t) : isN (lval a (k + 1)) (9 * k + t) := by
  obtain ⟨h1, h2, h3⟩ := ht
  have hl := lval_lt a k (fun i hi => h i (by omega))
  have e0 : lb ^ k = 10 ^ (9 * k) := by rw [show lb = 10 ^ 9 from rfl, ← Nat.pow_mul]
  rw [lval_s, e0]
  rw [e0] at hl
  refine ⟨by omega, ?_, ?_⟩
  · rw [show 9 * k + t - 1 = (t - 1) + 9 * k by omega, Nat.pow_add]
    have := Nat.mul_le_mul_right (10 ^ (9 * k)) h2
    omega
  · rw [Nat.add_comm (9 * k) t, Nat.pow_add]
    have : (a k + 1) * 10 ^ (9 * k) ≤ 10 ^ t * 10 ^ (9 * k) := Nat.mul_le_mul_right _ h3
    rw [Nat.add_mul, Nat.one_mul] at this
    omega
def lm_is (lm : Nat → Int64) (k : Nat) (a : Nat → Nat) : Prop := ∀ i, i < k → lm i = lN (a i) ∧ a i < lb
end
section
/-! FormatDesk$Decimal: multiply, spell, become -/
set_option maxRecDepth 20000 in
set_option maxHeartbeats 1000000 in
theorem ct_De_multiply (l : Launch) (dc pt : Int32) (k g : Nat) (lm : Nat → Int64) (dg : Nat → Int32) (a : Nat → Nat) (ha : lm_is lm k a) (hk : 0 < k ∧ k ≤ 86) (hg : 0 < g ∧ g ≤ 536870912) (htop : 0 < a (k - 1)) (hbig : g * lval a k < lb ^ 86) : ax_CT l y_De_multiply c_De_multiply 8 none 0 [.ref 9, .long (lN g)] (pc_De (nI k) dc pt lm dg) (fun r h => r = none ∧ ∃ lm' k' a', h = pc_De (nI k') dc pt lm' dg ∧ lm_is lm' k' a' ∧ (0 < k' ∧ k' ≤ 86) ∧ 0 < a' (k' - 1) ∧ lval a' k' = g * lval a k) := by
  refine ax_ofV (by decide) (Nat.le_of_ble_eq_true rfl) ?_
  intro p e s m args below meth c D cid ad A Qc G hr E
  have loop : ∀ (j i c1 : Nat) (b : Nat → Nat) (lm' : Nat → Int64), j + i = k → c1 < g → lm_is lm' k b → (∀ q, i ≤ q → b q = a q) → lval b i + c1 * lb ^ i = g * lval a i → (i = k → c1 = 0 → 0 < b (k - 1)) → ax_V p l e (ax_rm 0) s m args below meth c D cid ad A 8 0 0 (MQ below Qc args s 0 0 A) 5 [(0, .ref 9), (1, .long (lN g)), (3, .long (lN c1)), (5, .int (nI i))] [] (pc_De (nI k) dc pt lm' dg) := by
    intro j
    induction j with
    | zero =>
      intro i c1 b lm' hj hc hb hq he ht
      have e : i = k := by omega
      subst e
      refine ax_iload G d_De_multiply_5 rfl ?_
      refine ax_aload_n G d_De_multiply_7 rfl rfl ?_
      refine ax_get (ci := 0) (j := 1) G d_De_multiply_8 rfl rfl (by decide) k_De_13 rfl ?_
      refine ax_icmp_ge (tgt := 55) G d_De_multiply_11 (by decide) (fun c_11 => ?_) (fun c_11 => ?_)
      · have hz : (lg_cmp (lN c1) 0 = 0) ↔ c1 = 0 := by
          rw [lg_cmp_eq, show (0 : Int64) = lN 0 from rfl, pk_lEQ (by omega) (by decide)]
        refine ax_lload_n G d_De_multiply_55 rfl rfl ?_
        refine ax_lconst (v := 0) G d_De_multiply_56 (by decide) ?_
        refine ax_lcmp G d_De_multiply_57 ?_
        refine ax_if_eq (tgt := 93) G d_De_multiply_58 (by decide) (fun c_58 => ?_) (fun c_58 => ?_)
        · have h0 := hz.mp c_58
          subst h0
          rw [Nat.zero_mul, Nat.add_zero] at he
          exact ax_vret G hr E d_De_multiply_93 rfl ⟨rfl, lm', i, b, rfl, hb, hk, ht rfl rfl, he⟩
        · have h0 : 0 < c1 := Nat.pos_of_ne_zero (fun q => c_58 (hz.mpr q))
          have hlt : i < 86 := by
            rcases Nat.lt_or_ge i 86 with q | q
            · exact q
            · have e86 : i = 86 := by omega
              have : 1 * lb ^ i ≤ c1 * lb ^ i := Nat.mul_le_mul_right _ h0
              rw [e86] at this he hbig
              omega
          refine ax_aload_n G d_De_multiply_61 rfl rfl ?_
          refine ax_get (ci := 0) (j := 1) G d_De_multiply_62 rfl rfl (by decide) k_De_13 rfl ?_
          refine ax_aload_n G d_De_multiply_65 rfl rfl ?_
          refine ax_get (ci := 0) (j := 0) G d_De_multiply_66 rfl rfl (by decide) k_De_9 rfl ?_
          refine ax_alen (v := (nI 86)) G d_De_multiply_69 rfl (by decide) rfl ?_
          refine ax_icmp_ge (tgt := 93) G d_De_multiply_70 (by decide) (fun c_70 => ?_) (fun c_70 => ?_)
          · exact absurd c_70 (nI_ge hlt (by decide))
          · refine ax_aload_n G d_De_multiply_73 rfl rfl ?_
            refine ax_get (ci := 0) (j := 0) G d_De_multiply_74 rfl rfl (by decide) k_De_9 rfl ?_
            refine ax_aload_n G d_De_multiply_77 rfl rfl ?_
            refine ax_get (ci := 0) (j := 1) G d_De_multiply_78 rfl rfl (by decide) k_De_13 rfl ?_
            refine ax_lload_n G d_De_multiply_81 rfl rfl ?_
            refine ax_last G d_De_multiply_82 rfl (vp_in_nI hlt (by decide)) ?_
            rw [nI_clamp (by omega)]
            refine ax_aload_n G d_De_multiply_83 rfl rfl ?_
            refine ax_dup G d_De_multiply_84 rfl ?_
            refine ax_get (ci := 0) (j := 1) G d_De_multiply_85 rfl rfl (by decide) k_De_13 rfl ?_
            refine ax_iconst (v := 1) G d_De_multiply_88 (by decide) ?_
            refine ax_iadd G d_De_multiply_89 ?_
            refine ax_put (ci := 0) (j := 1) G d_De_multiply_90 rfl rfl (by decide) k_De_13 rfl rfl rfl (Nat.le_of_ble_eq_true rfl) ?_
            rw [nI_1]
            refine ax_vret G hr E d_De_multiply_93 rfl ⟨rfl, _, i + 1, upN b i c1, rfl, fun q hq1 => ?_, by omega, ?_, ?_⟩
            · by_cases hqi : q = i
              · subst hqi
                rw [pk_uLs]
                unfold upN
                rw [if_pos rfl]
                exact ⟨rfl, by unfold lb; omega⟩
              · rw [pk_uLn hqi]
                unfold upN
                rw [if_neg hqi]
                exact hb q (by omega)
            · unfold upN
              rw [if_pos (by omega)]
              exact h0
            · rw [lval_s, lval_eq (upN b i c1) b i (fun q hq1 => by unfold upN; rw [if_neg (by omega)])]
              unfold upN
              rw [if_pos rfl]
              exact he
      · exact absurd (nI_le (Nat.le_refl _) (by omega)) c_11
    | succ j ih =>
      intro i c1 b lm' hj hc hb hq he ht
      obtain ⟨e1, e2⟩ := hb i (by omega)
      have e2' : b i < 1000000000 := e2
      have hprod : b i * g ≤ 999999999 * 536870912 := Nat.mul_le_mul (by omega) hg.2
      refine ax_iload G d_De_multiply_5 rfl ?_
      refine ax_aload_n G d_De_multiply_7 rfl rfl ?_
      refine ax_get (ci := 0) (j := 1) G d_De_multiply_8 rfl rfl (by decide) k_De_13 rfl ?_
      refine ax_icmp_ge (tgt := 55) G d_De_multiply_11 (by decide) (fun c_11 => ?_) (fun c_11 => ?_)
      · exact absurd c_11 (nI_ge (by omega) (by omega))
      · refine ax_aload_n G d_De_multiply_14 rfl rfl ?_
        refine ax_get (ci := 0) (j := 0) G d_De_multiply_15 rfl rfl (by decide) k_De_9 rfl ?_
        refine ax_iload G d_De_multiply_18 rfl ?_
        refine ax_lald G d_De_multiply_20 rfl (vp_in_nI (by omega) (by omega)) ?_
        rw [nI_clamp (by omega), e1]
        refine ax_lload_n G d_De_multiply_21 rfl rfl ?_
        refine ax_lmul G d_De_multiply_22 ?_
        refine ax_lload_n G d_De_multiply_23 rfl rfl ?_
        refine ax_ladd G d_De_multiply_24 ?_
        rw [lN_mul, lN_add]
        refine ax_lstore G d_De_multiply_25 (by decide) ?_
        refine ax_lload G d_De_multiply_27 rfl ?_
        refine ax_ldc2 G d_De_multiply_29 k_De_30 ?_
        refine ax_ldiv G d_De_multiply_32 (by decide) ?_
        rw [show (1000000000 : Int64) = lN 1000000000 from rfl, pk_lDiv (by omega) (by decide) (by decide)]
        refine ax_lstore_n G d_De_multiply_33 rfl (by decide) ?_
        refine ax_aload_n G d_De_multiply_34 rfl rfl ?_
        refine ax_get (ci := 0) (j := 0) G d_De_multiply_35 rfl rfl (by decide) k_De_9 rfl ?_
        refine ax_iload G d_De_multiply_38 rfl ?_
        refine ax_lload G d_De_multiply_40 rfl ?_
        refine ax_lload_n G d_De_multiply_42 rfl rfl ?_
        refine ax_ldc2 G d_De_multiply_43 k_De_30 ?_
        refine ax_lmul G d_De_multiply_46 ?_
        refine ax_lsub G d_De_multiply_47 ?_
        rw [show (1000000000 : Int64) = lN 1000000000 from rfl, lN_mul, lN_sub (Nat.div_mul_le_self _ _)]
        refine ax_last G d_De_multiply_48 rfl (vp_in_nI (by omega) (by omega)) ?_
        rw [nI_clamp (by omega)]
        refine ax_iincZ (z := 1) G d_De_multiply_49 rfl (by decide) (by decide) ?_
        refine ax_goto (tgt := 5) G d_De_multiply_52 (by decide) ?_
        rw [nI_1]
        have hmod : b i * g + c1 - (b i * g + c1) / 1000000000 * 1000000000 = (b i * g + c1) % 1000000000 := by
          have := Nat.div_add_mod (b i * g + c1) 1000000000
          omega
        rw [hmod]
        have hcar : (b i * g + c1) / 1000000000 < g := by
          rw [Nat.div_lt_iff_lt_mul (by decide)]
          have : (b i + 1) * g ≤ 1000000000 * g := Nat.mul_le_mul_right _ e2
          rw [Nat.add_mul, Nat.one_mul, Nat.mul_comm 1000000000 g] at this
          omega
        refine ax_less (ih (i + 1) _ (upN b i ((b i * g + c1) % 1000000000)) _ (by omega) hcar (fun q hq1 => ?_) (fun q hq1 => ?_) ?_ ?_) ⟨rfl, rfl, rfl, rfl, trivial⟩
        · by_cases hqi : q = i
          · subst hqi
            rw [pk_uLs]
            unfold upN
            rw [if_pos rfl]
            exact ⟨rfl, Nat.mod_lt _ (by decide)⟩
          · rw [pk_uLn hqi]
            unfold upN
            rw [if_neg hqi]
            exact hb q hq1
        · unfold upN
          rw [if_neg (by omega)]
          exact hq q (by omega)
        · rw [lval_s, lval_eq (upN b i ((b i * g + c1) % 1000000000)) b i (fun q hq1 => by unfold upN; rw [if_neg (by omega)]), lval_s]
          have e5 : upN b i ((b i * g + c1) % 1000000000) i = (b i * g + c1) % 1000000000 := by unfold upN; rw [if_pos rfl]
          rw [e5, Nat.pow_succ, Nat.mul_add, ← he, ← hq i (Nat.le_refl _)]
          have e6 : (b i * g + c1) % 1000000000 * lb ^ i + (b i * g + c1) / 1000000000 * (lb ^ i * lb) = (b i * g + c1) * lb ^ i := by
            rw [Nat.mul_comm (lb ^ i) lb, ← Nat.mul_assoc, ← Nat.add_mul]
            congr 1
            have := Nat.div_add_mod (b i * g + c1) 1000000000
            show _ + _ * 1000000000 = _
            omega
          rw [Nat.add_mul] at e6
          have e7 : g * (b i * lb ^ i) = b i * g * lb ^ i := by rw [← Nat.mul_assoc, Nat.mul_comm g]
          omega
        · intro hik h0
          have e8 : k - 1 = i := by omega
          rw [e8]
          unfold upN
          rw [if_pos rfl]
          have h9 : 0 < b i := by rw [hq i (Nat.le_refl _), ← e8]; exact htop
          have h10 : 0 < b i * g := Nat.mul_pos h9 hg.1
          have := Nat.div_add_mod (b i * g + c1) 1000000000
          rw [h0] at this
          omega
  refine ax_lconst (v := 0) G d_De_multiply_0 (by decide) ?_
  refine ax_lstore_n G d_De_multiply_1 rfl (by decide) ?_
  refine ax_iconst (v := 0) G d_De_multiply_2 (by decide) ?_
  refine ax_istore G d_De_multiply_3 (by decide) ?_
  exact loop k 0 0 a lm (by omega) hg.1 ha (fun _ _ => rfl) (by rw [Nat.zero_mul]; rfl) (fun q => by omega)
set_option maxRecDepth 20000 in
set_option maxHeartbeats 1000000 in
theorem ct_De_spell (l : Launch) (dc pt : Int32) (k : Nat) (lm : Nat → Int64) (dg : Nat → Int32) (a : Nat → Nat) (ha : lm_is lm (k + 1) a) (hk : k + 1 ≤ 86) (htop : 0 < a k) : ax_CT l y_De_spell c_De_spell 4 none 0 [.ref 9] (pc_De (nI (k + 1)) dc pt lm dg) (fun r h => r = none ∧ ∃ dg' n, h = pc_De (nI (k + 1)) (nI n) pt lm dg' ∧ isN (lval a (k + 1)) n ∧ n ≤ 774 ∧ ∀ i, i < n → dg' i = nI (dgs (lval a (k + 1)) n i)) := by
  refine ax_ofV (by decide) (Nat.le_of_ble_eq_true rfl) ?_
  intro p e s m args below meth c D cid ad A Qc G hr E
  have hal : ∀ i, i < k + 1 → a i < lb := fun i hi => (ha i hi).2
  have hkt : a k < 1000000000 := (ha k (by omega)).2
  have hT : isN (a k) (dg10 9 (a k)) := dg10_is 9 (a k) htop hkt
  have hT9 : dg10 9 (a k) ≤ 9 := by
    rcases Nat.lt_or_ge 9 (dg10 9 (a k)) with q | q
    · have : 10 ^ 9 ≤ 10 ^ (dg10 9 (a k) - 1) := Nat.pow_le_pow_right (by decide) (by omega)
      have := hT.2.1
      omega
    · exact q
  have hN := isN_lval a k _ hal hT
  generalize hn : 9 * k + dg10 9 (a k) = n at hN
  have hn774 : n ≤ 774 := by omega
  -- the second loop
  have loop2 : ∀ (j i : Nat) (W : Int64) (dg2 : Nat → Int32), j + i = n → (i % 9 ≠ 0 → W = lN (a (i / 9) / 10 ^ (i % 9))) → (∀ q, q < i → dg2 (n - 1 - q) = nI (lval a (k + 1) / 10 ^ q % 10)) → ax_V p l e (ax_rm 0) s m args below meth c D cid ad A 4 0 0 (MQ below Qc args s 0 0 A) 63 [(0, .ref 9), (1, .long W), (3, .int (nI i))] [] (pc_De (nI (k + 1)) (nI n) pt lm dg2) := by
    intro j
    induction j with
    | zero =>
      intro i W dg2 hj hW hd2
      refine ax_iload_n G d_De_spell_63 rfl rfl ?_
      refine ax_aload_n G d_De_spell_64 rfl rfl ?_
      refine ax_get (ci := 0) (j := 3) G d_De_spell_65 rfl rfl (by decide) k_De_21 rfl ?_
      refine ax_icmp_ge (tgt := 120) G d_De_spell_68 (by decide) (fun c_68 => ?_) (fun c_68 => ?_)
      · refine ax_vret G hr E d_De_spell_120 rfl ⟨rfl, dg2, n, rfl, hN, hn774, fun q hq => ?_⟩
        have := hd2 (n - 1 - q) (by omega)
        rw [show n - 1 - (n - 1 - q) = q by omega] at this
        exact this
      · exact absurd (nI_le (by omega) (by omega)) c_68
    | succ j ih =>
      intro i W dg2 hj hW hd2
      have hi9 : i / 9 < k + 1 := by
        have := Nat.div_lt_iff_lt_mul (x := i) (y := k + 1) (k := 9) (by decide)
        omega
      have step : ax_V p l e (ax_rm 0) s m args below meth c D cid ad A 4 0 0 (MQ below Qc args s 0 0 A) 88 [(0, .ref 9), (1, .long (lN (a (i / 9) / 10 ^ (i % 9)))), (3, .int (nI i))] [] (pc_De (nI (k + 1)) (nI n) pt lm dg2) := by
        have hb : a (i / 9) / 10 ^ (i % 9) < 1000000000 := Nat.lt_of_le_of_lt (Nat.div_le_self _ _) (hal _ hi9)
        refine ax_aload_n G d_De_spell_88 rfl rfl ?_
        refine ax_get (ci := 0) (j := 2) G d_De_spell_89 rfl rfl (by decide) k_De_17 rfl ?_
        refine ax_aload_n G d_De_spell_92 rfl rfl ?_
        refine ax_get (ci := 0) (j := 3) G d_De_spell_93 rfl rfl (by decide) k_De_21 rfl ?_
        refine ax_iconst (v := 1) G d_De_spell_96 (by decide) ?_
        refine ax_isub G d_De_spell_97 ?_
        refine ax_iload_n G d_De_spell_98 rfl rfl ?_
        rw [show nI n - 1 = nI n - nI 1 from rfl, pk_sub (by omega)]
        refine ax_isub G d_De_spell_99 ?_
        rw [pk_sub (by omega)]
        refine ax_lload_n G d_De_spell_100 rfl rfl ?_
        refine ax_ldc2 G d_De_spell_101 k_De_48 ?_
        refine ax_lrem G d_De_spell_104 (by decide) ?_
        rw [show (10 : Int64) = lN 10 from rfl, pk_lRem (by omega) (by decide) (by decide)]
        refine ax_l2i G d_De_spell_105 ?_
        rw [lN_i]
        refine ax_i2b G d_De_spell_106 ?_
        have hdig : a (i / 9) / 10 ^ (i % 9) % 10 = lval a (k + 1) / 10 ^ i % 10 := (lval_dig a (k + 1) hal i hi9).symm
        have hdl : a (i / 9) / 10 ^ (i % 9) % 10 < 10 := Nat.mod_lt _ (by decide)
        refine ax_bast G d_De_spell_107 rfl (vp_in_nI (by omega) (by omega)) ?_
        rw [nI_clamp (by omega), pk_vb, by_nI (by omega)]
        refine ax_lload_n G d_De_spell_108 rfl rfl ?_
        refine ax_ldc2 G d_De_spell_109 k_De_48 ?_
        refine ax_ldiv G d_De_spell_112 (by decide) ?_
        rw [show (10 : Int64) = lN 10 from rfl, pk_lDiv (by omega) (by decide) (by decide)]
        refine ax_lstore_n G d_De_spell_113 rfl (by decide) ?_
        refine ax_iincZ (z := 1) G d_De_spell_114 rfl (by decide) (by decide) ?_
        refine ax_goto (tgt := 63) G d_De_spell_117 (by decide) ?_
        rw [nI_1]
        refine ih (i + 1) _ _ (by omega) (fun h9 => ?_) (fun q hq => ?_)
        · have e1 : (i + 1) / 9 = i / 9 := by omega
          have e2 : (i + 1) % 9 = i % 9 + 1 := by omega
          rw [e1, e2, Nat.pow_succ, Nat.div_div_eq_div_mul]
        · by_cases hqi : q = i
          · subst hqi
            rw [pk_us, hdig]
          · rw [pk_un (by omega)]
            exact hd2 q (by omega)
      refine ax_iload_n G d_De_spell_63 rfl rfl ?_
      refine ax_aload_n G d_De_spell_64 rfl rfl ?_
      refine ax_get (ci := 0) (j := 3) G d_De_spell_65 rfl rfl (by decide) k_De_21 rfl ?_
      refine ax_icmp_ge (tgt := 120) G d_De_spell_68 (by decide) (fun c_68 => ?_) (fun c_68 => ?_)
      · exact absurd c_68 (nI_ge (by omega) (by omega))
      · refine ax_iload_n G d_De_spell_71 rfl rfl ?_
        refine ax_bipush (v := 9) G d_De_spell_72 (by decide) ?_
        refine ax_irem G d_De_spell_74 (by decide) ?_
        rw [show (9 : Int32) = nI 9 from rfl, pk_rem (by omega) (by decide) (by decide)]
        refine ax_if_ne (tgt := 88) G d_De_spell_75 (by decide) (fun c_75 => ?_) (fun c_75 => ?_)
        · have h9 : i % 9 ≠ 0 := fun q => c_75 (by rw [q]; rfl)
          rw [hW h9]
          exact step
        · have h9 : i % 9 = 0 := (nI_eq (b := 0) (by omega) (by decide)).mp c_75
          refine ax_aload_n G d_De_spell_78 rfl rfl ?_
          refine ax_get (ci := 0) (j := 0) G d_De_spell_79 rfl rfl (by decide) k_De_9 rfl ?_
          refine ax_iload_n G d_De_spell_82 rfl rfl ?_
          refine ax_bipush (v := 9) G d_De_spell_83 (by decide) ?_
          refine ax_idiv G d_De_spell_85 (by decide) ?_
          rw [show (9 : Int32) = nI 9 from rfl, pk_div (by omega) (by decide) (by decide)]
          refine ax_lald G d_De_spell_86 rfl (vp_in_nI (by omega) (by omega)) ?_
          rw [nI_clamp (by omega), (ha _ hi9).1]
          rw [h9, Nat.pow_zero, Nat.div_one] at step
          refine ax_lstore_n G d_De_spell_87 rfl (by decide) ?_
          exact step
  have loop1 : ∀ (j i W : Nat), j + i = 9 → W < 1000000000 → i + dg10 j W = dg10 9 (a k) → ax_V p l e (ax_rm 0) s m args below meth c D cid ad A 4 0 0 (MQ below Qc args s 0 0 A) 27 [(0, .ref 9), (1, .long (lN W)), (3, .int (nI i))] [] (pc_De (nI (k + 1)) (nI (9 * k + i)) pt lm dg) := by
    have out : ∀ (i W : Nat), i = dg10 9 (a k) → ax_V p l e (ax_rm 0) s m args below meth c D cid ad A 4 0 0 (MQ below Qc args s 0 0 A) 61 [(0, .ref 9), (1, .long (lN W)), (3, .int (nI i))] [] (pc_De (nI (k + 1)) (nI (9 * k + i)) pt lm dg) := by
      intro i W hi
      rw [show 9 * k + i = n by omega]
      refine ax_iconst (v := 0) G d_De_spell_61 (by decide) ?_
      refine ax_istore_n G d_De_spell_62 rfl (by decide) ?_
      exact loop2 n 0 _ dg (by omega) (fun h => absurd rfl h) (fun q hq => absurd hq (Nat.not_lt_zero q))
    intro j
    induction j with
    | zero =>
      intro i W hj hW he
      refine ax_iload_n G d_De_spell_27 rfl rfl ?_
      refine ax_bipush (v := 9) G d_De_spell_28 (by decide) ?_
      refine ax_icmp_ge (tgt := 61) G d_De_spell_30 (by decide) (fun c_30 => ?_) (fun c_30 => ?_)
      · exact out i W (by have : dg10 0 W = 0 := rfl; omega)
      · exact absurd (nI_le (a := 9) (by omega) (by omega)) c_30
    | succ j ih =>
      intro i W hj hW he
      rw [dg10_s] at he
      have hz : (lg_cmp (lN W) 0 ≤ 0) ↔ W = 0 := by
        rw [lg_cmp_le, show (0 : Int64) = lN 0 from rfl, pk_lLE (by omega) (by decide)]
        omega
      refine ax_iload_n G d_De_spell_27 rfl rfl ?_
      refine ax_bipush (v := 9) G d_De_spell_28 (by decide) ?_
      refine ax_icmp_ge (tgt := 61) G d_De_spell_30 (by decide) (fun c_30 => ?_) (fun c_30 => ?_)
      · exact absurd c_30 (nI_ge (b := 9) (by omega) (by decide))
      · refine ax_lload_n G d_De_spell_33 rfl rfl ?_
        refine ax_lconst (v := 0) G d_De_spell_34 (by decide) ?_
        refine ax_lcmp G d_De_spell_35 ?_
        refine ax_if_le (tgt := 61) G d_De_spell_36 (by decide) (fun c_36 => ?_) (fun c_36 => ?_)
        · rw [if_pos (hz.mp c_36)] at he
          exact out i W (by omega)
        · rw [if_neg (fun q => c_36 (hz.mpr q))] at he
          refine ax_aload_n G d_De_spell_39 rfl rfl ?_
          refine ax_dup G d_De_spell_40 rfl ?_
          refine ax_get (ci := 0) (j := 3) G d_De_spell_41 rfl rfl (by decide) k_De_21 rfl ?_
          refine ax_iconst (v := 1) G d_De_spell_44 (by decide) ?_
          refine ax_iadd G d_De_spell_45 ?_
          refine ax_put (ci := 0) (j := 3) G d_De_spell_46 rfl rfl (by decide) k_De_21 rfl rfl rfl (Nat.le_of_ble_eq_true rfl) ?_
          refine ax_lload_n G d_De_spell_49 rfl rfl ?_
          refine ax_ldc2 G d_De_spell_50 k_De_48 ?_
          refine ax_ldiv G d_De_spell_53 (by decide) ?_
          rw [nI_1, show (10 : Int64) = lN 10 from rfl, pk_lDiv (by omega) (by decide) (by decide)]
          refine ax_lstore_n G d_De_spell_54 rfl (by decide) ?_
          refine ax_iincZ (z := 1) G d_De_spell_55 rfl (by decide) (by decide) ?_
          refine ax_goto (tgt := 27) G d_De_spell_58 (by decide) ?_
          rw [nI_1]
          exact ih (i + 1) (W / 10) (by omega) (by omega) (by omega)
  refine ax_aload_n G d_De_spell_0 rfl rfl ?_
  refine ax_bipush (v := 9) G d_De_spell_1 (by decide) ?_
  refine ax_aload_n G d_De_spell_3 rfl rfl ?_
  refine ax_get (ci := 0) (j := 1) G d_De_spell_4 rfl rfl (by decide) k_De_13 rfl ?_
  refine ax_iconst (v := 1) G d_De_spell_7 (by decide) ?_
  refine ax_isub G d_De_spell_8 ?_
  refine ax_imul G d_De_spell_9 ?_
  rw [nI_pred, show (9 : Int32) = nI 9 from rfl, pk_mul]
  refine ax_put (ci := 0) (j := 3) G d_De_spell_10 rfl rfl (by decide) k_De_21 rfl rfl rfl (Nat.le_of_ble_eq_true rfl) ?_
  refine ax_aload_n G d_De_spell_13 rfl rfl ?_
  refine ax_get (ci := 0) (j := 0) G d_De_spell_14 rfl rfl (by decide) k_De_9 rfl ?_
  refine ax_aload_n G d_De_spell_17 rfl rfl ?_
  refine ax_get (ci := 0) (j := 1) G d_De_spell_18 rfl rfl (by decide) k_De_13 rfl ?_
  refine ax_iconst (v := 1) G d_De_spell_21 (by decide) ?_
  refine ax_isub G d_De_spell_22 ?_
  rw [nI_pred]
  refine ax_lald G d_De_spell_23 rfl (vp_in_nI (by omega) (by omega)) ?_
  rw [nI_clamp (by omega), (ha k (by omega)).1]
  refine ax_lstore_n G d_De_spell_24 rfl (by decide) ?_
  refine ax_iconst (v := 0) G d_De_spell_25 (by decide) ?_
  refine ax_istore_n G d_De_spell_26 rfl (by decide) ?_
  exact loop1 9 0 (a k) rfl hkt (by omega)
end
section
/-! pure rows for become -/
def bB : Nat := lb ^ 86
theorem min_nI {a r : Nat} (ha : a < 2 ^ 31) (hr : r < 2 ^ 31) : (if nI a < nI r then nI a else nI r) = nI (min r a) := by
  by_cases hq : a < r
  · rw [if_pos (nI_lt hq hr), Nat.min_eq_right (by omega)]
  · rw [if_neg (nI_nlt (by omega) ha), Nat.min_eq_left (by omega)]
theorem pw_le2 {b x r m B : Nat} (hb : 0 < b) (h : x * b ^ r < B) : b ^ min r m * x < B := by
  have h1 : b ^ min r m ≤ b ^ r := Nat.pow_le_pow_right hb (Nat.min_le_left _ _)
  rw [Nat.mul_comm]
  exact Nat.lt_of_le_of_lt (Nat.mul_le_mul_left _ h1) h
theorem pw_next (b x r m : Nat) : b ^ min r m * x * b ^ (r - min r m) = x * b ^ r := by
  rw [Nat.mul_comm (b ^ min r m) x, Nat.mul_assoc, ← Nat.pow_add]
  congr 2
  omega
/-- the whole number whose digits are the number's -/
def tgt (s0 : Nat) (e : Int) : Nat := s0 * 2 ^ e.toNat * 5 ^ (-e).toNat
theorem tgt_lt {s0 : Nat} {e : Int} (hs : s0 < 2 ^ 53) (h1 : -1074 ≤ e) (h2 : e ≤ 971) : tgt s0 e < bB := by
  unfold tgt
  by_cases h : e ≤ 0
  · rw [show e.toNat = 0 by omega, Nat.pow_zero, Nat.mul_one]
    have a1 : 5 ^ (-e).toNat ≤ 5 ^ 1074 := Nat.pow_le_pow_right (by decide) (by omega)
    have a2 : s0 * 5 ^ (-e).toNat ≤ 2 ^ 53 * 5 ^ 1074 := Nat.mul_le_mul (by omega) a1
    exact Nat.lt_of_le_of_lt a2 (by decide +kernel)
  · rw [show (-e).toNat = 0 by omega, Nat.pow_zero, Nat.mul_one]
    have a1 : 2 ^ e.toNat ≤ 2 ^ 971 := Nat.pow_le_pow_right (by decide) (by omega)
    have a2 : s0 * 2 ^ e.toNat ≤ 2 ^ 53 * 2 ^ 971 := Nat.mul_le_mul (by omega) a1
    exact Nat.lt_of_le_of_lt a2 (by decide +kernel)
theorem shl_one : ∀ m, m ≤ 29 → (1 : Int64) <<< ((nI m).toInt64 &&& 63) = lN (2 ^ m) := by decide +kernel
theorem two_le : ∀ m, m ≤ 29 → 0 < 2 ^ m ∧ 2 ^ m ≤ 536870912 := by decide +kernel
theorem five_le : ∀ m, m ≤ 12 → 0 < 5 ^ m ∧ 5 ^ m ≤ 536870912 := by decide +kernel
theorem tgt_eq (s0 : Nat) (e : Int) : tgt s0 e = s0 * 2 ^ e.toNat * 5 ^ (-e).toNat := rfl
theorem m12 : (-12 : Int32).toInt = -12 := by decide +kernel
theorem m29 : (-29 : Int32).toInt = -29 := by decide +kernel
theorem q12a {r j : Nat} (h : (r : Int) ≤ 12 * ((j + 1 : Nat) : Int)) : (r : Int) - 12 ≤ 12 * (j : Int) := by omega
theorem q12b (r : Nat) : -2000 ≤ (r : Int) - 12 := by omega
theorem q12c {r : Nat} (h : (r : Int) ≤ 2000) : (r : Int) - 12 ≤ 2000 := by omega
theorem q12d (r : Nat) : ((r : Int) - 12).toNat = r - min r 12 := by omega
theorem q29a {r j : Nat} (h : (r : Int) ≤ 29 * ((j + 1 : Nat) : Int)) : (r : Int) - 29 ≤ 29 * (j : Int) := by omega
theorem q29b (r : Nat) : -2000 ≤ (r : Int) - 29 := by omega
theorem q29c {r : Nat} (h : (r : Int) ≤ 2000) : (r : Int) - 29 ≤ 2000 := by omega
theorem q29d (r : Nat) : ((r : Int) - 29).toNat = r - min r 29 := by omega
end
section
/-! FormatDesk$Decimal: become -/
set_option maxRecDepth 20000 in
set_option maxHeartbeats 1000000 in
theorem ct_De_become (l : Launch) (lc dc pt e0 : Int32) (s0 : Nat) (lm : Nat → Int64) (dg : Nat → Int32) (hs : s0 < 2 ^ 53) (he1 : -1074 ≤ e0.toInt) (he2 : e0.toInt ≤ 971) : ax_CT l y_De_become c_De_become 5 none 1 [.ref 9, .long (lN s0), .int e0] (pc_De lc dc pt lm dg) (fun r h => r = none ∧ ∃ lc' n pt' lm' dg' , h = pc_De lc' (nI n) pt' lm' dg' ∧ n ≤ 774 ∧ (s0 = 0 → n = 0 ∧ pt' = 1) ∧ (0 < s0 → isN (tgt s0 e0.toInt) n ∧ pt'.toInt = (n : Int) + min e0.toInt 0) ∧ de_is dg' n (dgs (tgt s0 e0.toInt) n)) := by
  refine ax_ofV (by decide) (Nat.le_of_ble_eq_true rfl) ?_
  intro p e s m args below meth c D cid ad A Qc G hr E
  have hz : (lg_cmp (lN s0) 0 = 0) ↔ s0 = 0 := by
    rw [lg_cmp_eq, show (0 : Int64) = lN 0 from rfl, pk_lEQ (by omega) (by decide)]
  refine ax_lload_n G d_De_become_0 rfl rfl ?_
  refine ax_lconst (v := 0) G d_De_become_1 (by decide) ?_
  refine ax_lcmp G d_De_become_2 ?_
  refine ax_if_ne (tgt := 11) G d_De_become_3 (by decide) (fun c_3 => ?_) (fun c_3 => ?_)
  · have hs0 : 0 < s0 := Nat.pos_of_ne_zero (fun q => c_3 (hz.mpr q))
    have hbig := tgt_lt hs he1 he2
    -- behind both loops
    have fin : ∀ (k : Nat) (x4 : Int32) (lm2 : Nat → Int64) (a : Nat → Nat), lm_is lm2 k a → (0 < k ∧ k ≤ 86) → 0 < a (k - 1) → lval a k = tgt s0 e0.toInt → ax_V p l e (ax_rm 1) s m args below meth c D cid ad A 5 0 0 (MQ below Qc args s 0 0 A) 110 [(0, .ref 9), (1, .long (lN s0)), (3, .int e0), (4, .int x4)] [] (pc_De (nI k) dc pt lm2 dg) := by
      intro k x4 lm2 a ha hk ht hv
      obtain ⟨j, rfl⟩ : ∃ j, k = j + 1 := ⟨k - 1, by omega⟩
      refine ax_aload_n G d_De_become_110 rfl rfl ?_
      refine ax_callV (n := 0) G (ct_De_spell l dc pt j lm2 dg a ha (by omega) ht) d_De_become_111 rfl ⟨rfl, rfl, rfl, trivial⟩ rfl rfl rfl kc_De_spell ⟨k_De_45, ki_De_spell, ks_De_spell, kk_De⟩ (by decide +kernel) rfl ⟨by decide, by decide⟩ (Nat.le_of_ble_eq_true rfl) ⟨by decide, by decide⟩ (fun r hc_ hq hk_ => ?_)
      obtain ⟨rfl, dg2, n, rfl, hN, hn, hd⟩ := hq
      rw [hv] at hN hd
      refine ax_aload_n G d_De_become_114 rfl rfl ?_
      refine ax_aload_n G d_De_become_115 rfl rfl ?_
      refine ax_get (ci := 0) (j := 3) G d_De_become_116 rfl rfl (by decide) k_De_21 rfl ?_
      refine ax_iload_n G d_De_become_119 rfl rfl ?_
      refine ax_iconst (v := 0) G d_De_become_120 (by decide) ?_
      refine ax_mmin G d_De_become_121 k_De_32 ⟨by decide, by decide⟩ (Nat.le_of_ble_eq_true rfl) ⟨by decide, by decide⟩ ?_
      refine ax_iadd G d_De_become_124 ?_
      refine ax_put (ci := 0) (j := 4) G d_De_become_125 rfl rfl (by decide) k_De_24 rfl rfl rfl (Nat.le_of_ble_eq_true rfl) ?_
      have hp : (nI n + (if 0 < e0 then 0 else e0)).toInt = (n : Int) + min e0.toInt 0 := by
        have h0 : (0 : Int32).toInt = 0 := rfl
        by_cases hq : 0 < e0
        · rw [if_pos hq, i32_add _ _ (by rw [nI_toInt (by omega)]; omega) (by rw [h0]; omega), nI_toInt (by omega), h0]
          rw [i32_lt, h0] at hq
          omega
        · rw [if_neg hq, i32_add _ _ (by rw [nI_toInt (by omega)]; omega) (by omega), nI_toInt (by omega)]
          rw [i32_lt, h0] at hq
          omega
      exact ax_vret G hr E d_De_become_128 rfl ⟨rfl, _, n, _, lm2, dg2, rfl, hn, fun z => by omega, fun _ => ⟨hN, hp⟩, fun i hi => ⟨hd i hi, Nat.mod_lt _ (by decide)⟩⟩
    have loopB : ∀ (j k : Nat) (x4 : Int32) (lm2 : Nat → Int64) (a : Nat → Nat), x4.toInt ≤ 12 * (j : Int) → -2000 ≤ x4.toInt → x4.toInt ≤ 2000 → lm_is lm2 k a → (0 < k ∧ k ≤ 86) → 0 < a (k - 1) → lval a k * 5 ^ x4.toInt.toNat = tgt s0 e0.toInt → ax_V p l e (ax_rm 1) s m args below meth c D cid ad A 5 0 0 (MQ below Qc args s 0 0 A) 84 [(0, .ref 9), (1, .long (lN s0)), (3, .int e0), (4, .int x4)] [] (pc_De (nI k) dc pt lm2 dg) := by
      intro j
      induction j with
      | zero =>
        intro k x4 lm2 a h1 h2 h3 ha hk ht hv
        rw [show x4.toInt.toNat = 0 by omega, Nat.pow_zero, Nat.mul_one] at hv
        refine ax_iload G d_De_become_84 rfl ?_
        refine ax_if_le (tgt := 110) G d_De_become_86 (by decide) (fun c_86 => ?_) (fun c_86 => ?_)
        · exact fin k x4 lm2 a ha hk ht hv
        · refine absurd ?_ c_86
          rw [i32_le]
          show x4.toInt ≤ 0
          omega
      | succ j ih =>
        intro k x4 lm2 a h1 h2 h3 ha hk ht hv
        refine ax_iload G d_De_become_84 rfl ?_
        refine ax_if_le (tgt := 110) G d_De_become_86 (by decide) (fun c_86 => ?_) (fun c_86 => ?_)
        · have : x4.toInt ≤ 0 := by rw [i32_le] at c_86; exact c_86
          rw [show x4.toInt.toNat = 0 by omega, Nat.pow_zero, Nat.mul_one] at hv
          exact fin k x4 lm2 a ha hk ht hv
        · have hpos : 0 < x4.toInt := by rw [i32_le] at c_86; exact Int.not_le.mp c_86
          obtain ⟨r, hr0, rfl⟩ := nI_of (x := x4) (by rw [i32_lt]; show ¬ x4.toInt < 0; omega)
          have er : (nI r).toInt = (r : Int) := nI_toInt hr0
          rw [er] at h1 h2 h3 hv hpos
          rw [Int.toNat_natCast] at hv
          refine ax_aload_n G d_De_become_89 rfl rfl ?_
          refine ax_fives G d_De_become_90 k_De_42 ?_
          refine ax_iload G d_De_become_93 rfl ?_
          refine ax_bipush (v := 12) G d_De_become_95 (by decide) ?_
          refine ax_mmin G d_De_become_97 k_De_32 ⟨by decide, by decide⟩ (Nat.le_of_ble_eq_true rfl) ⟨by decide, by decide⟩ ?_
          rw [show (12 : Int32) = nI 12 from rfl, min_nI (by decide) hr0]
          refine ax_fiveat G d_De_become_100 (vp_in_nI (by omega) (by decide)) ?_
          rw [nI_clamp (by omega), show ax_five (min r 12) = lN (5 ^ min r 12) from rfl]
          refine ax_callV (n := 1) G (ct_De_multiply l dc pt k (5 ^ min r 12) lm2 dg a ha hk (five_le _ (by omega)) ht (pw_le2 (by decide) (by rw [hv]; exact hbig))) d_De_become_101 rfl ⟨rfl, rfl, rfl, trivial⟩ rfl rfl rfl kc_De_multiply ⟨k_De_38, ki_De_multiply, ks_De_multiply, kk_De⟩ (by decide +kernel) rfl ⟨by decide, by decide⟩ (Nat.le_of_ble_eq_true rfl) ⟨by decide, by decide⟩ (fun r hc_ hq hk_ => ?_)
          obtain ⟨rfl, lm3, k3, a3, rfl, g1, g2, g3, g4⟩ := hq
          refine ax_iincZ (z := (-12)) G d_De_become_104 rfl (by decide) (by decide) ?_
          refine ax_goto (tgt := 84) G d_De_become_107 (by decide) ?_
          have e9 : (nI r + (-12)).toInt = (r : Int) - 12 := by
            rw [i32_add _ _ (by rw [er]; omega) (by rw [m12]; omega), er, m12]
            omega
          refine ih k3 (nI r + (-12)) lm3 a3 (by rw [e9]; exact q12a h1) (by rw [e9]; exact q12b r) (by rw [e9]; exact q12c h3) g1 g2 g3 ?_
          rw [g4, e9, ← hv, q12d r, pw_next]
    have loopA : ∀ (j k : Nat) (x4 : Int32) (lm2 : Nat → Int64) (a : Nat → Nat), x4.toInt ≤ 29 * (j : Int) → -2000 ≤ x4.toInt → x4.toInt ≤ 2000 → lm_is lm2 k a → (0 < k ∧ k ≤ 86) → 0 < a (k - 1) → lval a k * 2 ^ x4.toInt.toNat = s0 * 2 ^ e0.toInt.toNat → ax_V p l e (ax_rm 1) s m args below meth c D cid ad A 5 0 0 (MQ below Qc args s 0 0 A) 56 [(0, .ref 9), (1, .long (lN s0)), (3, .int e0), (4, .int x4)] [] (pc_De (nI k) dc pt lm2 dg) := by
      have out : ∀ (k : Nat) (x4 : Int32) (lm2 : Nat → Int64) (a : Nat → Nat), lm_is lm2 k a → (0 < k ∧ k ≤ 86) → 0 < a (k - 1) → lval a k = s0 * 2 ^ e0.toInt.toNat → ax_V p l e (ax_rm 1) s m args below meth c D cid ad A 5 0 0 (MQ below Qc args s 0 0 A) 80 [(0, .ref 9), (1, .long (lN s0)), (3, .int e0), (4, .int x4)] [] (pc_De (nI k) dc pt lm2 dg) := by
        intro k x4 lm2 a ha hk ht hv
        have en : (-e0).toInt = -e0.toInt := i32_neg e0 (by omega)
        refine ax_iload_n G d_De_become_80 rfl rfl ?_
        refine ax_ineg G d_De_become_81 ?_
        refine ax_istore G d_De_become_82 (by decide) ?_
        exact loopB 100 k (-e0) lm2 a (by rw [en]; omega) (by rw [en]; omega) (by rw [en]; omega) ha hk ht (by rw [en, hv, ← tgt_eq])
      intro j
      induction j with
      | zero =>
        intro k x4 lm2 a h1 h2 h3 ha hk ht hv
        rw [show x4.toInt.toNat = 0 by omega, Nat.pow_zero, Nat.mul_one] at hv
        refine ax_iload G d_De_become_56 rfl ?_
        refine ax_if_le (tgt := 80) G d_De_become_58 (by decide) (fun c_58 => ?_) (fun c_58 => ?_)
        · exact out k x4 lm2 a ha hk ht hv
        · refine absurd ?_ c_58
          rw [i32_le]
          show x4.toInt ≤ 0
          omega
      | succ j ih =>
        intro k x4 lm2 a h1 h2 h3 ha hk ht hv
        refine ax_iload G d_De_become_56 rfl ?_
        refine ax_if_le (tgt := 80) G d_De_become_58 (by decide) (fun c_58 => ?_) (fun c_58 => ?_)
        · have : x4.toInt ≤ 0 := by rw [i32_le] at c_58; exact c_58
          rw [show x4.toInt.toNat = 0 by omega, Nat.pow_zero, Nat.mul_one] at hv
          exact out k x4 lm2 a ha hk ht hv
        · have hpos : 0 < x4.toInt := by rw [i32_le] at c_58; exact Int.not_le.mp c_58
          obtain ⟨r, hr0, rfl⟩ := nI_of (x := x4) (by rw [i32_lt]; show ¬ x4.toInt < 0; omega)
          have er : (nI r).toInt = (r : Int) := nI_toInt hr0
          rw [er] at h1 h2 h3 hv hpos
          rw [Int.toNat_natCast] at hv
          refine ax_aload_n G d_De_become_61 rfl rfl ?_
          refine ax_lconst (v := 1) G d_De_become_62 (by decide) ?_
          refine ax_iload G d_De_become_63 rfl ?_
          refine ax_bipush (v := 29) G d_De_become_65 (by decide) ?_
          refine ax_mmin G d_De_become_67 k_De_32 ⟨by decide, by decide⟩ (Nat.le_of_ble_eq_true rfl) ⟨by decide, by decide⟩ ?_
          rw [show (29 : Int32) = nI 29 from rfl, min_nI (by decide) hr0]
          refine ax_lshl G d_De_become_70 ?_
          rw [shl_one _ (by omega)]
          have hbig2 : s0 * 2 ^ e0.toInt.toNat < bB := by
            unfold tgt at hbig
            exact Nat.lt_of_le_of_lt (Nat.le_mul_of_pos_right _ (Nat.pow_pos (by decide))) hbig
          refine ax_callV (n := 1) G (ct_De_multiply l dc pt k (2 ^ min r 29) lm2 dg a ha hk (two_le _ (by omega)) ht (pw_le2 (by decide) (by rw [hv]; exact hbig2))) d_De_become_71 rfl ⟨rfl, rfl, rfl, trivial⟩ rfl rfl rfl kc_De_multiply ⟨k_De_38, ki_De_multiply, ks_De_multiply, kk_De⟩ (by decide +kernel) rfl ⟨by decide, by decide⟩ (Nat.le_of_ble_eq_true rfl) ⟨by decide, by decide⟩ (fun r hc_ hq hk_ => ?_)
          obtain ⟨rfl, lm3, k3, a3, rfl, g1, g2, g3, g4⟩ := hq
          refine ax_iincZ (z := (-29)) G d_De_become_74 rfl (by decide) (by decide) ?_
          refine ax_goto (tgt := 56) G d_De_become_77 (by decide) ?_
          have e9 : (nI r + (-29)).toInt = (r : Int) - 29 := by
            rw [i32_add _ _ (by rw [er]; omega) (by rw [m29]; omega), er, m29]
            omega
          refine ih k3 (nI r + (-29)) lm3 a3 (by rw [e9]; exact q29a h1) (by rw [e9]; exact q29b r) (by rw [e9]; exact q29c h3) g1 g2 g3 ?_
          rw [g4, e9, ← hv, q29d r, pw_next]
    refine ax_aload_n G d_De_become_11 rfl rfl ?_
    refine ax_get (ci := 0) (j := 0) G d_De_become_12 rfl rfl (by decide) k_De_9 rfl ?_
    refine ax_iconst (v := 0) G d_De_become_15 (by decide) ?_
    refine ax_lload_n G d_De_become_16 rfl rfl ?_
    refine ax_ldc2 G d_De_become_17 k_De_30 ?_
    refine ax_lrem G d_De_become_20 (by decide) ?_
    rw [show (1000000000 : Int64) = lN 1000000000 from rfl, pk_lRem (by omega) (by decide) (by decide)]
    refine ax_last G d_De_become_21 rfl (vp_in_nI (n := 0) (by decide) (by decide)) ?_
    refine ax_aload_n G d_De_become_22 rfl rfl ?_
    refine ax_get (ci := 0) (j := 0) G d_De_become_23 rfl rfl (by decide) k_De_9 rfl ?_
    refine ax_iconst (v := 1) G d_De_become_26 (by decide) ?_
    refine ax_lload_n G d_De_become_27 rfl rfl ?_
    refine ax_ldc2 G d_De_become_28 k_De_30 ?_
    refine ax_ldiv G d_De_become_31 (by decide) ?_
    rw [show (1000000000 : Int64) = lN 1000000000 from rfl, pk_lDiv (by omega) (by decide) (by decide)]
    refine ax_last G d_De_become_32 rfl (vp_in_nI (n := 1) (by decide) (by decide)) ?_
    refine ax_aload_n G d_De_become_33 rfl rfl ?_
    refine ax_aload_n G d_De_become_34 rfl rfl ?_
    refine ax_get (ci := 0) (j := 0) G d_De_become_35 rfl rfl (by decide) k_De_9 rfl ?_
    refine ax_iconst (v := 1) G d_De_become_38 (by decide) ?_
    refine ax_lald G d_De_become_39 rfl (vp_in_nI (n := 1) (by decide) (by decide)) ?_
    rw [show vp_updL (vp_updL lm (0 : Int32).toNatClampNeg (lN (s0 % 1000000000))) (1 : Int32).toNatClampNeg (lN (s0 / 1000000000)) (1 : Int32).toNatClampNeg = lN (s0 / 1000000000) from rfl]
    have hq2 : (lg_cmp (lN (s0 / 1000000000)) 0 = 0) ↔ s0 / 1000000000 = 0 := by
      rw [lg_cmp_eq, show (0 : Int64) = lN 0 from rfl, pk_lEQ (by omega) (by decide)]
    have ha2 : lm_is (vp_updL (vp_updL lm 0 (lN (s0 % 1000000000))) 1 (lN (s0 / 1000000000))) 2 (fun i => if i = 0 then s0 % 1000000000 else s0 / 1000000000) := by
      intro i hi
      rcases (show i = 0 ∨ i = 1 by omega) with rfl | rfl
      · exact ⟨rfl, Nat.mod_lt _ (by decide)⟩
      · refine ⟨rfl, ?_⟩
        show s0 / 1000000000 < 1000000000
        omega
    have hv2 : lval (fun i => if i = 0 then s0 % 1000000000 else s0 / 1000000000) 2 = s0 := by
      show 0 + s0 % 1000000000 * lb ^ 0 + s0 / 1000000000 * lb ^ 1 = s0
      rw [Nat.pow_zero, Nat.pow_one]
      unfold lb
      have := Nat.div_add_mod s0 1000000000
      omega
    refine ax_lconst (v := 0) G d_De_become_40 (by decide) ?_
    refine ax_lcmp G d_De_become_41 ?_
    refine ax_if_ne (tgt := 49) G d_De_become_42 (by decide) (fun c_42 => ?_) (fun c_42 => ?_)
    · have h1 : s0 / 1000000000 ≠ 0 := fun q => c_42 (hq2.mpr q)
      refine ax_iconst (v := 2) G d_De_become_49 (by decide) ?_
      refine ax_put (ci := 0) (j := 1) G d_De_become_50 rfl rfl (by decide) k_De_13 rfl rfl rfl (Nat.le_of_ble_eq_true rfl) ?_
      refine ax_iload_n G d_De_become_53 rfl rfl ?_
      refine ax_istore G d_De_become_54 (by decide) ?_
      exact loopA 100 2 e0 _ _ (by omega) (by omega) (by omega) ha2 (by omega) (Nat.pos_of_ne_zero h1) (by rw [hv2])
    · have h1 : s0 / 1000000000 = 0 := hq2.mp c_42
      refine ax_iconst (v := 1) G d_De_become_45 (by decide) ?_
      refine ax_goto (tgt := 50) G d_De_become_46 (by decide) ?_
      refine ax_put (ci := 0) (j := 1) G d_De_become_50 rfl rfl (by decide) k_De_13 rfl rfl rfl (Nat.le_of_ble_eq_true rfl) ?_
      refine ax_iload_n G d_De_become_53 rfl rfl ?_
      refine ax_istore G d_De_become_54 (by decide) ?_
      refine loopA 100 1 e0 _ (fun i => if i = 0 then s0 % 1000000000 else s0 / 1000000000) (by omega) (by omega) (by omega) (fun i hi => ha2 i (by omega)) (by omega) ?_ ?_
      · show 0 < s0 % 1000000000
        omega
      · have hv1 : lval (fun i => if i = 0 then s0 % 1000000000 else s0 / 1000000000) 1 = s0 := by
          show 0 + s0 % 1000000000 * lb ^ 0 = s0
          rw [Nat.pow_zero]
          omega
        rw [hv1]
  · have hs0 := hz.mp c_3
    subst hs0
    refine ax_aload_n G d_De_become_6 rfl rfl ?_
    refine ax_callV (n := 0) G (ct_De_becomeZero l lc dc pt lm dg) d_De_become_7 rfl ⟨rfl, rfl, rfl, trivial⟩ rfl rfl rfl kc_De_becomeZero ⟨k_De_27, ki_De_becomeZero, ks_De_becomeZero, kk_De⟩ (by decide +kernel) rfl ⟨by decide, by decide⟩ (Nat.le_of_ble_eq_true rfl) ⟨by decide, by decide⟩ (fun r hc_ hq hk_ => ?_)
    obtain ⟨rfl, rfl⟩ := hq
    exact ax_vret G hr E d_De_become_10 rfl ⟨rfl, lc, 0, 1, lm, dg, rfl, by decide, fun _ => ⟨rfl, rfl⟩, fun z => absurd z (by decide), fun i hi => absurd hi (Nat.not_lt_zero i)⟩
end
section
/-! pure rows: what the writer puts -/
abbrev pc_Wr : ax_H := [(6, .inr (4, [.ref 7, .ref 9]))]
def pnt (b : Nat) (hash : Bool) : List Nat := if 0 < b ∨ hash = true then [46] else []
def expo (z : Int) (two : Bool) : List Nat := (if z < 0 then 45 else 43) :: ((if 1000 ≤ z.natAbs then [48 + z.natAbs / 1000] else []) ++ ((if 100 ≤ z.natAbs then [48 + z.natAbs / 100 % 10] else []) ++ ((if 10 ≤ z.natAbs ∨ two = true then [48 + z.natAbs / 10 % 10] else []) ++ [48 + z.natAbs % 10])))
theorem expo_len (z : Int) (two : Bool) : (expo z two).length ≤ 5 := by
  unfold expo
  rw [List.length_cons, List.length_append, List.length_append, List.length_append]
  split <;> split <;> split <;> simp
def dAt (d : Nat → Nat) (n : Nat) (i : Int) : Nat := if 0 ≤ i ∧ i < (n : Int) then d i.toNat else 0
theorem dAt_lt {dg : Nat → Int32} {n : Nat} {d : Nat → Nat} (h : de_is dg n d) (i : Int) : dAt d n i < 10 := by
  unfold dAt
  split
  · exact (h i.toNat (by omega)).2
  · decide
/-- digitAt's answer -/
theorem dAt_row {dg : Nat → Int32} {n : Nat} {d : Nat → Nat} (h : de_is dg n d) (hn : n ≤ 774) (x : Int32) : (if ¬ x < 0 ∧ x < nI n then dg x.toNatClampNeg else 0) = nI (dAt d n x.toInt) := by
  unfold dAt
  have e1 : (¬ x < 0) ↔ 0 ≤ x.toInt := by rw [i32_lt]; exact Int.not_lt
  have e2 : (x < nI n) ↔ x.toInt < (n : Int) := by rw [i32_lt, nI_toInt (by omega)]
  by_cases hq : 0 ≤ x.toInt ∧ x.toInt < (n : Int)
  · rw [if_pos hq, if_pos ⟨e1.mpr hq.1, e2.mpr hq.2⟩]
    exact (h x.toInt.toNat (by omega)).1
  · rw [if_neg hq, if_neg (fun z => hq ⟨e1.mp z.1, e2.mp z.2⟩)]
    rfl
/-- the digits before the point (one at least), the point, those behind it -/
def dgI (d : Nat → Nat) (n : Nat) (pt : Int) : List Nat := (List.range (max pt 1).toNat).map (fun i : Nat => 48 + dAt d n ((i : Int) + min 0 (pt - 1)))
def dgB (d : Nat → Nat) (n : Nat) (pt : Int) (b : Nat) : List Nat := (List.range b).map (fun i : Nat => 48 + dAt d n (pt + (i : Int)))
def ptd (d : Nat → Nat) (n : Nat) (pt : Int) (b : Nat) (hash : Bool) : List Nat := dgI d n pt ++ (pnt b hash ++ dgB d n pt b)
theorem dgI_len (d : Nat → Nat) (n : Nat) (pt : Int) : (dgI d n pt).length = (max pt 1).toNat := by unfold dgI; rw [List.length_map, List.length_range]
theorem dgB_len (d : Nat → Nat) (n : Nat) (pt : Int) (b : Nat) : (dgB d n pt b).length = b := by unfold dgB; rw [List.length_map, List.length_range]
theorem pnt_len (b : Nat) (hash : Bool) : (pnt b hash).length ≤ 1 := by unfold pnt; split <;> simp
theorem rg_s (g : Nat → Nat) (k : Nat) : (List.range (k + 1)).map g = (List.range k).map g ++ [g k] := by rw [List.range_succ, List.map_append]; rfl
def prI (q : Option Nat) : Int32 := match q with
  | none => -1
  | some k => nI k
theorem prI_m1 {q : Option Nat} (h : ∀ k, q = some k → k ≤ 200) : (prI q = -1) ↔ q = none := by
  cases q with
  | none => exact ⟨fun _ => rfl, fun _ => rfl⟩
  | some k =>
    have hk := h k rfl
    refine ⟨fun z => ?_, fun z => by cases z⟩
    have : (nI k).toInt = (-1 : Int32).toInt := congrArg Int32.toInt z
    rw [nI_toInt (by omega), show (-1 : Int32).toInt = -1 by decide +kernel] at this
    omega
end
section
/-! FormatDesk$Writer: putPoint, putExponent, putDigits, precisionOf -/
set_option maxRecDepth 20000 in
set_option maxHeartbeats 1000000 in
theorem ct_Wr_putPoint (l : Launch) (bs : List Nat) (b : Nat) (hash : Bool) (zp : Int32) (f : Nat → Int32) (hf : pi_is f bs) (hb : bs.length < 520) (hbb : b < 2 ^ 31) : ax_CT l y_Wr_putPoint c_Wr_putPoint 3 none 1 [.ref 6, .int (nI b), .int (zb hash)] (pc_Wr ++ pc_Pi (nI bs.length) zp f) (fun r h => r = none ∧ ∃ f', h = pc_Wr ++ pc_Pi (nI (bs ++ pnt b hash).length) zp f' ∧ pi_is f' (bs ++ pnt b hash)) := by
  refine ax_ofV (by decide) (Nat.le_of_ble_eq_true rfl) ?_
  intro p e s m args below meth c D cid ad A Qc G hr E
  have yes : (0 < b ∨ hash = true) → ax_V p l e (ax_rm 1) s m args below meth c D cid ad A 3 0 0 (MQ below Qc args s 0 0 A) 8 [(0, .ref 6), (1, .int (nI b)), (2, .int (zb hash))] [] (pc_Wr ++ pc_Pi (nI bs.length) zp f) := by
    intro hy
    have e1 : pnt b hash = [46] := by unfold pnt; rw [if_pos hy]
    refine ax_aload_n G d_Wr_putPoint_8 rfl rfl ?_
    refine ax_get (ci := 4) (j := 0) G d_Wr_putPoint_9 rfl rfl (by decide) k_Wr_14 rfl ?_
    refine ax_bipush (v := 46) G d_Wr_putPoint_12 (by decide) ?_
    refine ax_callV (n := 1) G (ct_Pi_put l bs 46 zp f hf hb (by decide)) d_Wr_putPoint_14 rfl ⟨rfl, rfl, trivial⟩ rfl rfl rfl kc_Pi_put ⟨k_Wr_34, ki_Pi_put, ks_Pi_put, kk_Pi⟩ (by decide +kernel) rfl ⟨by decide, by decide⟩ (Nat.le_of_ble_eq_true rfl) ⟨by decide, by decide⟩ (fun r hc_ hq hk_ => ?_)
    obtain ⟨rfl, f2, rfl, hf2⟩ := hq
    exact ax_vret G hr E d_Wr_putPoint_17 rfl ⟨rfl, f2, by rw [e1] <;> rfl, by rw [e1]; exact hf2⟩
  refine ax_iload_n G d_Wr_putPoint_0 rfl rfl ?_
  refine ax_if_gt (tgt := 8) G d_Wr_putPoint_1 (by decide) (fun c_1 => ?_) (fun c_1 => ?_)
  · exact yes (Or.inl ((nI_ltI (a := 0) (by decide) hbb).mp c_1))
  · refine ax_iload_n G d_Wr_putPoint_4 rfl rfl ?_
    refine ax_if_eq (tgt := 17) G d_Wr_putPoint_5 (by decide) (fun c_5 => ?_) (fun c_5 => ?_)
    · have h1 : hash = false := (zb_ne hash).mp c_5
      have h2 : ¬ 0 < b := fun q => c_1 ((nI_ltI (a := 0) (by decide) hbb).mpr q)
      have e1 : pnt b hash = [] := by unfold pnt; rw [if_neg (by rw [h1]; simp; omega)]
      exact ax_vret G hr E d_Wr_putPoint_17 rfl ⟨rfl, f, by rw [e1, List.append_nil] <;> rfl, by rw [e1, List.append_nil]; exact hf⟩
    · have h1 : hash = true := by cases hash; exact absurd rfl c_5; rfl
      exact yes (Or.inr h1)
set_option maxRecDepth 20000 in
set_option maxHeartbeats 1000000 in
theorem ct_Wr_putExponent (l : Launch) (bs : List Nat) (x : Int32) (two : Bool) (zp : Int32) (f : Nat → Int32) (hf : pi_is f bs) (hb : bs.length ≤ 510) (hx : -2000 ≤ x.toInt ∧ x.toInt ≤ 2000) : ax_CT l y_Wr_putExponent c_Wr_putExponent 4 none 1 [.ref 6, .int x, .int (zb two)] (pc_Wr ++ pc_Pi (nI bs.length) zp f) (fun r h => r = none ∧ ∃ f', h = pc_Wr ++ pc_Pi (nI (bs ++ expo x.toInt two).length) zp f' ∧ pi_is f' (bs ++ expo x.toInt two)) := by
  refine ax_ofV (by decide) (Nat.le_of_ble_eq_true rfl) ?_
  intro p e s m args below meth c D cid ad A Qc G hr E
  generalize hT : bs ++ expo x.toInt two = T at E
  unfold expo at hT
  generalize hd : x.toInt.natAbs = d at hT
  have hd2 : d ≤ 2000 := by omega
  have st101 : ∀ (bs' : List Nat) (f' : Nat → Int32), pi_is f' bs' → bs'.length ≤ 514 → bs' ++ [48 + d % 10] = T → ax_V p l e (ax_rm 1) s m args below meth c D cid ad A 4 0 0 (MQ below Qc args s 0 0 A) 101 [(0, .ref 6), (1, .int x), (2, .int (zb two)), (3, .int (nI d))] [] (pc_Wr ++ pc_Pi (nI bs'.length) zp f') := by
    intro bs' f' hf' hb' hT'
    refine ax_aload_n G d_Wr_putExponent_101 rfl rfl ?_
    refine ax_get (ci := 4) (j := 0) G d_Wr_putExponent_102 rfl rfl (by decide) k_Wr_14 rfl ?_
    refine ax_bipush (v := 48) G d_Wr_putExponent_105 (by decide) ?_
    refine ax_iload_n G d_Wr_putExponent_107 rfl rfl ?_
    refine ax_bipush (v := 10) G d_Wr_putExponent_108 (by decide) ?_
    refine ax_irem G d_Wr_putExponent_110 (by decide) ?_
    rw [show (10 : Int32) = nI 10 from rfl, pk_rem (by omega) (by decide) (by decide)]
    refine ax_iadd G d_Wr_putExponent_111 ?_
    rw [show (48 : Int32) = nI 48 from rfl, nI_add]
    refine ax_callV (n := 1) G (ct_Pi_put l bs' (48 + d % 10) zp f' hf' (by omega) (by omega)) d_Wr_putExponent_112 rfl ⟨rfl, rfl, trivial⟩ rfl rfl rfl kc_Pi_put ⟨k_Wr_34, ki_Pi_put, ks_Pi_put, kk_Pi⟩ (by decide +kernel) rfl ⟨by decide, by decide⟩ (Nat.le_of_ble_eq_true rfl) ⟨by decide, by decide⟩ (fun r hc_ hq hk_ => ?_)
    obtain ⟨rfl, f2, rfl, hf2⟩ := hq
    rw [hT'] at hf2
    exact ax_vret G hr E d_Wr_putExponent_115 rfl ⟨rfl, f2, by rw [← hT'] <;> rfl, hf2⟩
  have st74 : ∀ (bs' : List Nat) (f' : Nat → Int32), pi_is f' bs' → bs'.length ≤ 513 → bs' ++ ((if 10 ≤ d ∨ two = true then [48 + d / 10 % 10] else []) ++ [48 + d % 10]) = T → ax_V p l e (ax_rm 1) s m args below meth c D cid ad A 4 0 0 (MQ below Qc args s 0 0 A) 74 [(0, .ref 6), (1, .int x), (2, .int (zb two)), (3, .int (nI d))] [] (pc_Wr ++ pc_Pi (nI bs'.length) zp f') := by
    intro bs' f' hf' hb' hT'
    have yes : (10 ≤ d ∨ two = true) → ax_V p l e (ax_rm 1) s m args below meth c D cid ad A 4 0 0 (MQ below Qc args s 0 0 A) 84 [(0, .ref 6), (1, .int x), (2, .int (zb two)), (3, .int (nI d))] [] (pc_Wr ++ pc_Pi (nI bs'.length) zp f') := by
      intro hy
      rw [if_pos hy] at hT'
      refine ax_aload_n G d_Wr_putExponent_84 rfl rfl ?_
      refine ax_get (ci := 4) (j := 0) G d_Wr_putExponent_85 rfl rfl (by decide) k_Wr_14 rfl ?_
      refine ax_bipush (v := 48) G d_Wr_putExponent_88 (by decide) ?_
      refine ax_iload_n G d_Wr_putExponent_90 rfl rfl ?_
      refine ax_bipush (v := 10) G d_Wr_putExponent_91 (by decide) ?_
      refine ax_idiv G d_Wr_putExponent_93 (by decide) ?_
      rw [show (10 : Int32) = nI 10 from rfl, pk_div (by omega) (by decide) (by decide)]
      refine ax_bipush (v := 10) G d_Wr_putExponent_94 (by decide) ?_
      refine ax_irem G d_Wr_putExponent_96 (by decide) ?_
      rw [show (10 : Int32) = nI 10 from rfl, pk_rem (by omega) (by decide) (by decide)]
      refine ax_iadd G d_Wr_putExponent_97 ?_
      rw [show (48 : Int32) = nI 48 from rfl, nI_add]
      refine ax_callV (n := 1) G (ct_Pi_put l bs' (48 + d / 10 % 10) zp f' hf' (by omega) (by omega)) d_Wr_putExponent_98 rfl ⟨rfl, rfl, trivial⟩ rfl rfl rfl kc_Pi_put ⟨k_Wr_34, ki_Pi_put, ks_Pi_put, kk_Pi⟩ (by decide +kernel) rfl ⟨by decide, by decide⟩ (Nat.le_of_ble_eq_true rfl) ⟨by decide, by decide⟩ (fun r hc_ hq hk_ => ?_)
      obtain ⟨rfl, f2, rfl, hf2⟩ := hq
      exact st101 _ f2 hf2 (by rw [List.length_append]; show bs'.length + 1 ≤ 514; omega) (by rw [List.append_assoc]; exact hT')
    refine ax_iload_n G d_Wr_putExponent_74 rfl rfl ?_
    refine ax_bipush (v := 10) G d_Wr_putExponent_75 (by decide) ?_
    refine ax_icmp_ge (tgt := 84) G d_Wr_putExponent_77 (by decide) (fun c_77 => ?_) (fun c_77 => ?_)
    · exact yes (Or.inl ((nI_leI (a := 10) (by decide) (by omega)).mp c_77))
    · have h1 : ¬ 10 ≤ d := fun q => c_77 ((nI_leI (a := 10) (by decide) (by omega)).mpr q)
      refine ax_iload_n G d_Wr_putExponent_80 rfl rfl ?_
      refine ax_if_eq (tgt := 101) G d_Wr_putExponent_81 (by decide) (fun c_81 => ?_) (fun c_81 => ?_)
      · have h2 : two = false := (zb_ne two).mp c_81
        rw [if_neg (by rw [h2]; simp; omega), List.nil_append] at hT'
        exact st101 bs' f' hf' (by omega) hT'
      · have h2 : two = true := by cases two; exact absurd rfl c_81; rfl
        exact yes (Or.inr h2)
  have st51 : ∀ (bs' : List Nat) (f' : Nat → Int32), pi_is f' bs' → bs'.length ≤ 512 → bs' ++ ((if 100 ≤ d then [48 + d / 100 % 10] else []) ++ ((if 10 ≤ d ∨ two = true then [48 + d / 10 % 10] else []) ++ [48 + d % 10])) = T → ax_V p l e (ax_rm 1) s m args below meth c D cid ad A 4 0 0 (MQ below Qc args s 0 0 A) 51 [(0, .ref 6), (1, .int x), (2, .int (zb two)), (3, .int (nI d))] [] (pc_Wr ++ pc_Pi (nI bs'.length) zp f') := by
    intro bs' f' hf' hb' hT'
    refine ax_iload_n G d_Wr_putExponent_51 rfl rfl ?_
    refine ax_bipush (v := 100) G d_Wr_putExponent_52 (by decide) ?_
    refine ax_icmp_lt (tgt := 74) G d_Wr_putExponent_54 (by decide) (fun c_54 => ?_) (fun c_54 => ?_)
    · have h1 : ¬ 100 ≤ d := by have := (nI_ltI (b := 100) (by omega) (by decide)).mp c_54; omega
      rw [if_neg h1, List.nil_append] at hT'
      exact st74 bs' f' hf' (by omega) hT'
    · have h1 : 100 ≤ d := by
        rcases Nat.lt_or_ge d 100 with q | q
        · exact absurd ((nI_ltI (b := 100) (by omega) (by decide)).mpr q) c_54
        · exact q
      rw [if_pos h1] at hT'
      refine ax_aload_n G d_Wr_putExponent_57 rfl rfl ?_
      refine ax_get (ci := 4) (j := 0) G d_Wr_putExponent_58 rfl rfl (by decide) k_Wr_14 rfl ?_
      refine ax_bipush (v := 48) G d_Wr_putExponent_61 (by decide) ?_
      refine ax_iload_n G d_Wr_putExponent_63 rfl rfl ?_
      refine ax_bipush (v := 100) G d_Wr_putExponent_64 (by decide) ?_
      refine ax_idiv G d_Wr_putExponent_66 (by decide) ?_
      rw [show (100 : Int32) = nI 100 from rfl, pk_div (by omega) (by decide) (by decide)]
      refine ax_bipush (v := 10) G d_Wr_putExponent_67 (by decide) ?_
      refine ax_irem G d_Wr_putExponent_69 (by decide) ?_
      rw [show (10 : Int32) = nI 10 from rfl, pk_rem (by omega) (by decide) (by decide)]
      refine ax_iadd G d_Wr_putExponent_70 ?_
      rw [show (48 : Int32) = nI 48 from rfl, nI_add]
      refine ax_callV (n := 1) G (ct_Pi_put l bs' (48 + d / 100 % 10) zp f' hf' (by omega) (by omega)) d_Wr_putExponent_71 rfl ⟨rfl, rfl, trivial⟩ rfl rfl rfl kc_Pi_put ⟨k_Wr_34, ki_Pi_put, ks_Pi_put, kk_Pi⟩ (by decide +kernel) rfl ⟨by decide, by decide⟩ (Nat.le_of_ble_eq_true rfl) ⟨by decide, by decide⟩ (fun r hc_ hq hk_ => ?_)
      obtain ⟨rfl, f2, rfl, hf2⟩ := hq
      exact st74 _ f2 hf2 (by rw [List.length_append]; show bs'.length + 1 ≤ 513; omega) (by rw [List.append_assoc]; exact hT')
  have st29 : ∀ (bs' : List Nat) (f' : Nat → Int32), pi_is f' bs' → bs'.length ≤ 511 → bs' ++ ((if 1000 ≤ d then [48 + d / 1000] else []) ++ ((if 100 ≤ d then [48 + d / 100 % 10] else []) ++ ((if 10 ≤ d ∨ two = true then [48 + d / 10 % 10] else []) ++ [48 + d % 10]))) = T → ax_V p l e (ax_rm 1) s m args below meth c D cid ad A 4 0 0 (MQ below Qc args s 0 0 A) 29 [(0, .ref 6), (1, .int x), (2, .int (zb two)), (3, .int (nI d))] [] (pc_Wr ++ pc_Pi (nI bs'.length) zp f') := by
    intro bs' f' hf' hb' hT'
    refine ax_iload_n G d_Wr_putExponent_29 rfl rfl ?_
    refine ax_sipush (v := 1000) G d_Wr_putExponent_30 (by decide) ?_
    refine ax_icmp_lt (tgt := 51) G d_Wr_putExponent_33 (by decide) (fun c_33 => ?_) (fun c_33 => ?_)
    · have h1 : ¬ 1000 ≤ d := by have := (nI_ltI (b := 1000) (by omega) (by decide)).mp c_33; omega
      rw [if_neg h1, List.nil_append] at hT'
      exact st51 bs' f' hf' (by omega) hT'
    · have h1 : 1000 ≤ d := by
        rcases Nat.lt_or_ge d 1000 with q | q
        · exact absurd ((nI_ltI (b := 1000) (by omega) (by decide)).mpr q) c_33
        · exact q
      rw [if_pos h1] at hT'
      refine ax_aload_n G d_Wr_putExponent_36 rfl rfl ?_
      refine ax_get (ci := 4) (j := 0) G d_Wr_putExponent_37 rfl rfl (by decide) k_Wr_14 rfl ?_
      refine ax_bipush (v := 48) G d_Wr_putExponent_40 (by decide) ?_
      refine ax_iload_n G d_Wr_putExponent_42 rfl rfl ?_
      refine ax_sipush (v := 1000) G d_Wr_putExponent_43 (by decide) ?_
      refine ax_idiv G d_Wr_putExponent_46 (by decide) ?_
      rw [show (1000 : Int32) = nI 1000 from rfl, pk_div (by omega) (by decide) (by decide)]
      refine ax_iadd G d_Wr_putExponent_47 ?_
      rw [show (48 : Int32) = nI 48 from rfl, nI_add]
      refine ax_callV (n := 1) G (ct_Pi_put l bs' (48 + d / 1000) zp f' hf' (by omega) (by omega)) d_Wr_putExponent_48 rfl ⟨rfl, rfl, trivial⟩ rfl rfl rfl kc_Pi_put ⟨k_Wr_34, ki_Pi_put, ks_Pi_put, kk_Pi⟩ (by decide +kernel) rfl ⟨by decide, by decide⟩ (Nat.le_of_ble_eq_true rfl) ⟨by decide, by decide⟩ (fun r hc_ hq hk_ => ?_)
      obtain ⟨rfl, f2, rfl, hf2⟩ := hq
      exact st51 _ f2 hf2 (by rw [List.length_append]; show bs'.length + 1 ≤ 512; omega) (by rw [List.append_assoc]; exact hT')
  have h0 : (0 : Int32).toInt = 0 := rfl
  by_cases hneg : x.toInt < 0
  · rw [if_pos hneg] at hT
    have e1 : -x = nI d := i32_eq (by rw [i32_neg x (by omega), nI_toInt (by omega)]; omega)
    refine ax_iload_n G d_Wr_putExponent_0 rfl rfl ?_
    refine ax_if_ge (tgt := 9) G d_Wr_putExponent_1 (by decide) (fun c_1 => ?_) (fun c_1 => ?_)
    · rw [i32_le, h0] at c_1; omega
    · refine ax_iload_n G d_Wr_putExponent_4 rfl rfl ?_
      refine ax_ineg G d_Wr_putExponent_5 ?_
      rw [e1]
      refine ax_goto (tgt := 10) G d_Wr_putExponent_6 (by decide) ?_
      refine ax_istore_n G d_Wr_putExponent_10 rfl (by decide) ?_
      refine ax_aload_n G d_Wr_putExponent_11 rfl rfl ?_
      refine ax_get (ci := 4) (j := 0) G d_Wr_putExponent_12 rfl rfl (by decide) k_Wr_14 rfl ?_
      refine ax_iload_n G d_Wr_putExponent_15 rfl rfl ?_
      refine ax_if_ge (tgt := 24) G d_Wr_putExponent_16 (by decide) (fun c_16 => ?_) (fun c_16 => ?_)
      · rw [i32_le, h0] at c_16; omega
      · refine ax_bipush (v := 45) G d_Wr_putExponent_19 (by decide) ?_
        refine ax_goto (tgt := 26) G d_Wr_putExponent_21 (by decide) ?_
        refine ax_callV (n := 1) G (ct_Pi_put l bs 45 zp f hf (by omega) (by decide)) d_Wr_putExponent_26 rfl ⟨rfl, rfl, trivial⟩ rfl rfl rfl kc_Pi_put ⟨k_Wr_34, ki_Pi_put, ks_Pi_put, kk_Pi⟩ (by decide +kernel) rfl ⟨by decide, by decide⟩ (Nat.le_of_ble_eq_true rfl) ⟨by decide, by decide⟩ (fun r hc_ hq hk_ => ?_)
        obtain ⟨rfl, f2, rfl, hf2⟩ := hq
        exact st29 _ f2 hf2 (by rw [List.length_append]; show bs.length + 1 ≤ 511; omega) (by rw [List.append_assoc]; exact hT)
  · rw [if_neg hneg] at hT
    have e1 : x = nI d := i32_eq (by rw [nI_toInt (by omega)]; omega)
    refine ax_iload_n G d_Wr_putExponent_0 rfl rfl ?_
    refine ax_if_ge (tgt := 9) G d_Wr_putExponent_1 (by decide) (fun c_1 => ?_) (fun c_1 => ?_)
    · refine ax_iload_n G d_Wr_putExponent_9 rfl rfl ?_
      refine ax_istore_n G d_Wr_putExponent_10 rfl (by decide) ?_
      refine ax_aload_n G d_Wr_putExponent_11 rfl rfl ?_
      refine ax_get (ci := 4) (j := 0) G d_Wr_putExponent_12 rfl rfl (by decide) k_Wr_14 rfl ?_
      refine ax_iload_n G d_Wr_putExponent_15 rfl rfl ?_
      refine ax_if_ge (tgt := 24) G d_Wr_putExponent_16 (by decide) (fun c_16 => ?_) (fun c_16 => ?_)
      · refine ax_bipush (v := 43) G d_Wr_putExponent_24 (by decide) ?_
        refine ax_callV (n := 1) G (ct_Pi_put l bs 43 zp f hf (by omega) (by decide)) d_Wr_putExponent_26 rfl ⟨rfl, rfl, trivial⟩ rfl rfl rfl kc_Pi_put ⟨k_Wr_34, ki_Pi_put, ks_Pi_put, kk_Pi⟩ (by decide +kernel) rfl ⟨by decide, by decide⟩ (Nat.le_of_ble_eq_true rfl) ⟨by decide, by decide⟩ (fun r hc_ hq hk_ => ?_)
        obtain ⟨rfl, f2, rfl, hf2⟩ := hq
        have := st29 _ f2 hf2 (by rw [List.length_append]; show bs.length + 1 ≤ 511; omega) (by rw [List.append_assoc]; exact hT)
        rw [← e1] at this
        exact this
      · rw [i32_le, h0] at c_16; omega
    · rw [i32_le, h0] at c_1; omega
set_option maxRecDepth 20000 in
set_option maxHeartbeats 1000000 in
theorem ct_Wr_precisionOf (l : Launch) (q : Option Nat) (kk : Nat) (lf pl bl ha ze : Bool) (w : Int32) (wt pt gr : Bool) (pa : Int32) (hq0 : ∀ k, q = some k → k ≤ 200) (hkk : kk < 256) : ax_CT l y_Wr_precisionOf c_Wr_precisionOf 1 (some .int) 1 [.ref 5] (pc_Di lf pl bl ha ze w wt (prI q) pt (nI kk) gr pa) (fun r h => r = some (.int (nI (match q with | none => 6 | some k => if kk = 103 then max k 1 else k))) ∧ h = pc_Di lf pl bl ha ze w wt (prI q) pt (nI kk) gr pa) := by
  cases q with
  | none =>
    refine ax_ofV (by decide) (Nat.le_of_ble_eq_true rfl) ?_
    intro p e s m args below meth c D cid ad A Qc G hr E
    refine ax_aload_n G d_Wr_precisionOf_0 rfl rfl ?_
    refine ax_getN (ci := 1) (j := 7) G d_Wr_precisionOf_1 rfl rfl (by decide) k_Wr_84 rfl ?_
    refine ax_iconst (v := (-1)) G d_Wr_precisionOf_4 (by decide) ?_
    refine ax_icmp_ne (tgt := 11) G d_Wr_precisionOf_5 (by decide) (fun c_5 => ?_) (fun c_5 => ?_)
    · exact absurd rfl c_5
    · refine ax_bipush (v := 6) G d_Wr_precisionOf_8 (by decide) ?_
      exact ax_iret G hr E d_Wr_precisionOf_10 rfl ⟨rfl, rfl⟩
  | some k =>
    refine ax_ofV (by decide) (Nat.le_of_ble_eq_true rfl) ?_
    intro p e s m args below meth c D cid ad A Qc G hr E
    have hk := hq0 k rfl
    refine ax_aload_n G d_Wr_precisionOf_0 rfl rfl ?_
    refine ax_getN (ci := 1) (j := 7) G d_Wr_precisionOf_1 rfl rfl (by decide) k_Wr_84 rfl ?_
    refine ax_iconst (v := (-1)) G d_Wr_precisionOf_4 (by decide) ?_
    refine ax_icmp_ne (tgt := 11) G d_Wr_precisionOf_5 (by decide) (fun c_5 => ?_) (fun c_5 => ?_)
    · refine ax_aload_n G d_Wr_precisionOf_11 rfl rfl ?_
      refine ax_getN (ci := 1) (j := 9) G d_Wr_precisionOf_12 rfl rfl (by decide) k_Wr_28 rfl ?_
      refine ax_bipush (v := 103) G d_Wr_precisionOf_15 (by decide) ?_
      refine ax_icmp_ne (tgt := 31) G d_Wr_precisionOf_17 (by decide) (fun c_17 => ?_) (fun c_17 => ?_)
      · have h1 : ¬ kk = 103 := fun z => c_17 (by rw [z]; rfl)
        refine ax_aload_n G d_Wr_precisionOf_31 rfl rfl ?_
        refine ax_getN (ci := 1) (j := 7) G d_Wr_precisionOf_32 rfl rfl (by decide) k_Wr_84 rfl ?_
        exact ax_iret G hr E d_Wr_precisionOf_35 rfl ⟨by show _ = some (Value.int (nI (if kk = 103 then max k 1 else k))); rw [if_neg h1] <;> rfl, rfl⟩
      · have h1 : kk = 103 := (nI_eq (b := 103) (by omega) (by decide)).mp c_17
        refine ax_aload_n G d_Wr_precisionOf_20 rfl rfl ?_
        refine ax_getN (ci := 1) (j := 7) G d_Wr_precisionOf_21 rfl rfl (by decide) k_Wr_84 rfl ?_
        refine ax_iconst (v := 1) G d_Wr_precisionOf_24 (by decide) ?_
        refine ax_mmax G d_Wr_precisionOf_25 k_Wr_94 ⟨by decide, by decide⟩ (Nat.le_of_ble_eq_true rfl) ⟨by decide, by decide⟩ ?_
        rw [show (if prI (some k) < 1 then (1 : Int32) else prI (some k)) = nI (max k 1) by
          show (if nI k < nI 1 then nI 1 else nI k) = nI (max k 1)
          by_cases hz : k < 1
          · rw [if_pos (nI_lt hz (by decide)), Nat.max_eq_right (by omega)]
          · rw [if_neg (nI_nlt (by omega) (by omega)), Nat.max_eq_left (by omega)]]
        refine ax_goto (tgt := 35) G d_Wr_precisionOf_28 (by decide) ?_
        exact ax_iret G hr E d_Wr_precisionOf_35 rfl ⟨by show _ = some (Value.int (nI (if kk = 103 then max k 1 else k))); rw [if_pos h1], rfl⟩
    · exact absurd c_5 (fun z => by have := (prI_m1 hq0).mp z; cases this)
set_option maxRecDepth 20000 in
set_option maxHeartbeats 1000000 in
theorem ct_Wr_putDigits (l : Launch) (bs : List Nat) (lc pt x1 : Int32) (n b : Nat) (hash : Bool) (zp : Int32) (f : Nat → Int32) (lm : Nat → Int64) (dg : Nat → Int32) (d : Nat → Nat) (hf : pi_is f bs) (hd : de_is dg n d) (hn : n ≤ 774) (hx : -400 ≤ x1.toInt ∧ x1.toInt ≤ 320) (hbb : b ≤ 600) (hb : bs.length + (max x1.toInt 1).toNat + 1 + b ≤ 519) : ax_CT l y_Wr_putDigits c_Wr_putDigits 5 none 2 [.ref 6, .int x1, .int (nI b), .int (zb hash)] (pc_Wr ++ pc_Pi (nI bs.length) zp f ++ pc_De lc (nI n) pt lm dg) (fun r h => r = none ∧ ∃ f', h = pc_Wr ++ pc_Pi (nI (bs ++ ptd d n x1.toInt b hash).length) zp f' ++ pc_De lc (nI n) pt lm dg ∧ pi_is f' (bs ++ ptd d n x1.toInt b hash)) := by
  refine ax_ofV (by decide) (Nat.le_of_ble_eq_true rfl) ?_
  intro p e s m args below meth c D cid ad A Qc G hr E
  have h0 : (0 : Int32).toInt = 0 := rfl
  have h1 : (1 : Int32).toInt = 1 := rfl
  generalize hT : bs ++ ptd d n x1.toInt b hash = T at E
  unfold ptd at hT
  have loop2 : ∀ (j i : Nat) (bs' : List Nat) (f' : Nat → Int32), j + i = b → pi_is f' (bs' ++ dgB d n x1.toInt i) → bs'.length + b ≤ 519 → bs' ++ dgB d n x1.toInt b = T → ax_V p l e (ax_rm 2) s m args below meth c D cid ad A 5 0 0 (MQ below Qc args s 0 0 A) 49 [(0, .ref 6), (1, .int x1), (2, .int (nI b)), (3, .int (zb hash)), (4, .int (nI i))] [] (pc_Wr ++ pc_Pi (nI (bs' ++ dgB d n x1.toInt i).length) zp f' ++ pc_De lc (nI n) pt lm dg) := by
    intro j
    induction j with
    | zero =>
      intro i bs' f' hj hf' hb' hT'
      have e : i = b := by omega
      subst e
      refine ax_iload G d_Wr_putDigits_49 rfl ?_
      refine ax_iload_n G d_Wr_putDigits_51 rfl rfl ?_
      refine ax_icmp_ge (tgt := 82) G d_Wr_putDigits_52 (by decide) (fun c_52 => ?_) (fun c_52 => ?_)
      · rw [hT'] at hf'
        exact ax_vret G hr E d_Wr_putDigits_82 rfl ⟨rfl, f', by rw [hT'] <;> rfl, hf'⟩
      · exact absurd (nI_le (Nat.le_refl _) (by omega)) c_52
    | succ j ih =>
      intro i bs' f' hj hf' hb' hT'
      have hlen : (bs' ++ dgB d n x1.toInt i).length = bs'.length + i := by rw [List.length_append, dgB_len]
      have ex : (x1 + nI i).toInt = x1.toInt + (i : Int) := by rw [i32_add _ _ (by omega) (by rw [nI_toInt (by omega)]; omega), nI_toInt (by omega)]
      have hdl := dAt_lt hd (x1.toInt + (i : Int))
      refine ax_iload G d_Wr_putDigits_49 rfl ?_
      refine ax_iload_n G d_Wr_putDigits_51 rfl rfl ?_
      refine ax_icmp_ge (tgt := 82) G d_Wr_putDigits_52 (by decide) (fun c_52 => ?_) (fun c_52 => ?_)
      · exact absurd c_52 (nI_ge (by omega) (by omega))
      · refine ax_aload_n G d_Wr_putDigits_55 rfl rfl ?_
        refine ax_get (ci := 4) (j := 0) G d_Wr_putDigits_56 rfl rfl (by decide) k_Wr_14 rfl ?_
        refine ax_bipush (v := 48) G d_Wr_putDigits_59 (by decide) ?_
        refine ax_aload_n G d_Wr_putDigits_61 rfl rfl ?_
        refine ax_get (ci := 4) (j := 1) G d_Wr_putDigits_62 rfl rfl (by decide) k_Wr_21 rfl ?_
        refine ax_iload_n G d_Wr_putDigits_65 rfl rfl ?_
        refine ax_iload G d_Wr_putDigits_66 rfl ?_
        refine ax_iadd G d_Wr_putDigits_68 ?_
        refine ax_callV (n := 1) G (ct_De_digitAt l lc pt (x1 + nI i) n lm dg hn) d_Wr_putDigits_69 rfl ⟨rfl, rfl, rfl, trivial⟩ rfl rfl rfl kc_De_digitAt ⟨k_Wr_148, ki_De_digitAt, ks_De_digitAt, kk_De⟩ (by decide +kernel) rfl ⟨by decide, by decide⟩ (Nat.le_of_ble_eq_true rfl) ⟨by decide, by decide⟩ (fun r hc_ hq hk_ => ?_)
        obtain ⟨rfl, rfl⟩ := hq
        rw [dAt_row hd hn, ex]
        refine ax_iadd G d_Wr_putDigits_72 ?_
        rw [show (48 : Int32) = nI 48 from rfl, nI_add]
        refine ax_callV (n := 1) G (ct_Pi_put l (bs' ++ dgB d n x1.toInt i) (48 + dAt d n (x1.toInt + (i : Int))) zp f' hf' (by omega) (by omega)) d_Wr_putDigits_73 rfl ⟨rfl, rfl, trivial⟩ rfl rfl rfl kc_Pi_put ⟨k_Wr_34, ki_Pi_put, ks_Pi_put, kk_Pi⟩ (by decide +kernel) rfl ⟨by decide, by decide⟩ (Nat.le_of_ble_eq_true rfl) ⟨by decide, by decide⟩ (fun r hc_ hq hk_ => ?_)
        obtain ⟨rfl, f2, rfl, hf2⟩ := hq
        refine ax_iincZ (z := 1) G d_Wr_putDigits_76 rfl (by decide) (by decide) ?_
        refine ax_goto (tgt := 49) G d_Wr_putDigits_79 (by decide) ?_
        rw [nI_1]
        have e3 : bs' ++ dgB d n x1.toInt i ++ [48 + dAt d n (x1.toInt + (i : Int))] = bs' ++ dgB d n x1.toInt (i + 1) := by
          unfold dgB; rw [rg_s, List.append_assoc]
        rw [e3] at hf2
        have := ih (i + 1) bs' f2 (by omega) hf2 hb' hT'
        rw [← e3] at this
        exact this
  have mid : ∀ (x4 : Int32) (f' : Nat → Int32), pi_is f' (bs ++ dgI d n x1.toInt) → ax_V p l e (ax_rm 2) s m args below meth c D cid ad A 5 0 0 (MQ below Qc args s 0 0 A) 40 [(0, .ref 6), (1, .int x1), (2, .int (nI b)), (3, .int (zb hash)), (4, .int x4)] [] (pc_Wr ++ pc_Pi (nI (bs ++ dgI d n x1.toInt).length) zp f' ++ pc_De lc (nI n) pt lm dg) := by
    intro x4 f' hf'
    have hlen : (bs ++ dgI d n x1.toInt).length = bs.length + (max x1.toInt 1).toNat := by rw [List.length_append, dgI_len]
    refine ax_aload_n G d_Wr_putDigits_40 rfl rfl ?_
    refine ax_iload_n G d_Wr_putDigits_41 rfl rfl ?_
    refine ax_iload_n G d_Wr_putDigits_42 rfl rfl ?_
    refine ax_callV (n := 2) G (ct_Wr_putPoint l (bs ++ dgI d n x1.toInt) b hash zp f' hf' (by omega) (by omega)) d_Wr_putDigits_43 rfl ⟨rfl, rfl, rfl, trivial⟩ rfl rfl rfl kc_Wr_putPoint ⟨k_Wr_151, ki_Wr_putPoint, ks_Wr_putPoint, kk_Wr⟩ (by decide +kernel) rfl ⟨by decide, by decide⟩ (Nat.le_of_ble_eq_true rfl) ⟨by decide, by decide⟩ (fun r hc_ hq hk_ => ?_)
    obtain ⟨rfl, f2, rfl, hf2⟩ := hq
    refine ax_iconst (v := 0) G d_Wr_putDigits_46 (by decide) ?_
    refine ax_istore G d_Wr_putDigits_47 (by decide) ?_
    have hpl := pnt_len b hash
    have := loop2 b 0 (bs ++ dgI d n x1.toInt ++ pnt b hash) f2 (by omega) (by show pi_is f2 (_ ++ []); rw [List.append_nil]; exact hf2) (by rw [List.length_append, hlen]; omega) (by rw [List.append_assoc, List.append_assoc]; exact hT)
    rw [show dgB d n x1.toInt 0 = [] from rfl, List.append_nil] at this
    exact this
  have loop1 : ∀ (j i : Nat) (x4 : Int32) (f' : Nat → Int32), j + i = (max x1.toInt 1).toNat → x4.toInt = (i : Int) + min 0 (x1.toInt - 1) → pi_is f' (bs ++ (List.range i).map (fun i : Nat => 48 + dAt d n ((i : Int) + min 0 (x1.toInt - 1)))) → ax_V p l e (ax_rm 2) s m args below meth c D cid ad A 5 0 0 (MQ below Qc args s 0 0 A) 9 [(0, .ref 6), (1, .int x1), (2, .int (nI b)), (3, .int (zb hash)), (4, .int x4)] [] (pc_Wr ++ pc_Pi (nI (bs ++ (List.range i).map (fun i : Nat => 48 + dAt d n ((i : Int) + min 0 (x1.toInt - 1)))).length) zp f' ++ pc_De lc (nI n) pt lm dg) := by
    intro j
    induction j with
    | zero =>
      intro i x4 f' hj hx4 hf'
      have e : i = (max x1.toInt 1).toNat := by omega
      subst e
      refine ax_iload G d_Wr_putDigits_9 rfl ?_
      refine ax_iload_n G d_Wr_putDigits_11 rfl rfl ?_
      refine ax_icmp_ge (tgt := 40) G d_Wr_putDigits_12 (by decide) (fun c_12 => ?_) (fun c_12 => ?_)
      · exact mid x4 f' hf'
      · refine absurd ?_ c_12
        rw [i32_le, hx4]
        omega
    | succ j ih =>
      intro i x4 f' hj hx4 hf'
      have hlen : (bs ++ (List.range i).map (fun i : Nat => 48 + dAt d n ((i : Int) + min 0 (x1.toInt - 1)))).length = bs.length + i := by rw [List.length_append, List.length_map, List.length_range]
      have hdl := dAt_lt hd x4.toInt
      refine ax_iload G d_Wr_putDigits_9 rfl ?_
      refine ax_iload_n G d_Wr_putDigits_11 rfl rfl ?_
      refine ax_icmp_ge (tgt := 40) G d_Wr_putDigits_12 (by decide) (fun c_12 => ?_) (fun c_12 => ?_)
      · rw [i32_le, hx4] at c_12
        omega
      · refine ax_aload_n G d_Wr_putDigits_15 rfl rfl ?_
        refine ax_get (ci := 4) (j := 0) G d_Wr_putDigits_16 rfl rfl (by decide) k_Wr_14 rfl ?_
        refine ax_bipush (v := 48) G d_Wr_putDigits_19 (by decide) ?_
        refine ax_aload_n G d_Wr_putDigits_21 rfl rfl ?_
        refine ax_get (ci := 4) (j := 1) G d_Wr_putDigits_22 rfl rfl (by decide) k_Wr_21 rfl ?_
        refine ax_iload G d_Wr_putDigits_25 rfl ?_
        refine ax_callV (n := 1) G (ct_De_digitAt l lc pt x4 n lm dg hn) d_Wr_putDigits_27 rfl ⟨rfl, rfl, rfl, trivial⟩ rfl rfl rfl kc_De_digitAt ⟨k_Wr_148, ki_De_digitAt, ks_De_digitAt, kk_De⟩ (by decide +kernel) rfl ⟨by decide, by decide⟩ (Nat.le_of_ble_eq_true rfl) ⟨by decide, by decide⟩ (fun r hc_ hq hk_ => ?_)
        obtain ⟨rfl, rfl⟩ := hq
        rw [dAt_row hd hn]
        refine ax_iadd G d_Wr_putDigits_30 ?_
        rw [show (48 : Int32) = nI 48 from rfl, nI_add]
        refine ax_callV (n := 1) G (ct_Pi_put l _ (48 + dAt d n x4.toInt) zp f' hf' (by omega) (by omega)) d_Wr_putDigits_31 rfl ⟨rfl, rfl, trivial⟩ rfl rfl rfl kc_Pi_put ⟨k_Wr_34, ki_Pi_put, ks_Pi_put, kk_Pi⟩ (by decide +kernel) rfl ⟨by decide, by decide⟩ (Nat.le_of_ble_eq_true rfl) ⟨by decide, by decide⟩ (fun r hc_ hq hk_ => ?_)
        obtain ⟨rfl, f2, rfl, hf2⟩ := hq
        refine ax_iincZ (z := 1) G d_Wr_putDigits_34 rfl (by decide) (by decide) ?_
        refine ax_goto (tgt := 9) G d_Wr_putDigits_37 (by decide) ?_
        have e3 : bs ++ (List.range i).map (fun i : Nat => 48 + dAt d n ((i : Int) + min 0 (x1.toInt - 1))) ++ [48 + dAt d n x4.toInt] = bs ++ (List.range (i + 1)).map (fun i : Nat => 48 + dAt d n ((i : Int) + min 0 (x1.toInt - 1))) := by
          rw [rg_s, List.append_assoc, hx4]
        rw [e3] at hf2
        have := ih (i + 1) (x4 + 1) f2 (by omega) (by rw [i32_add _ _ (by omega) (by rw [h1]; omega), hx4, h1]; omega) hf2
        rw [← e3] at this
        exact this
  refine ax_iconst (v := 0) G d_Wr_putDigits_0 (by decide) ?_
  refine ax_iload_n G d_Wr_putDigits_1 rfl rfl ?_
  refine ax_iconst (v := 1) G d_Wr_putDigits_2 (by decide) ?_
  refine ax_isub G d_Wr_putDigits_3 ?_
  refine ax_mmin G d_Wr_putDigits_4 k_Wr_137 ⟨by decide, by decide⟩ (Nat.le_of_ble_eq_true rfl) ⟨by decide, by decide⟩ ?_
  have e4 : (if x1 - 1 < 0 then x1 - 1 else 0).toInt = ((0 : Nat) : Int) + min 0 (x1.toInt - 1) := by
    have e5 : (x1 - 1).toInt = x1.toInt - 1 := by rw [i32_sub _ _ (by omega) (by rw [h1]; omega), h1]
    by_cases hq : x1 - 1 < 0
    · rw [if_pos hq, e5]
      rw [i32_lt, e5, h0] at hq
      omega
    · rw [if_neg hq, h0]
      rw [i32_lt, e5, h0] at hq
      omega
  refine ax_istore G d_Wr_putDigits_7 (by decide) ?_
  have := loop1 (max x1.toInt 1).toNat 0 _ f (by omega) e4 (by show pi_is f (bs ++ []); rw [List.append_nil]; exact hf)
  rw [show (List.range 0).map (fun i : Nat => 48 + dAt d n ((i : Int) + min 0 (x1.toInt - 1))) = [] from rfl, List.append_nil] at this
  exact this
end
