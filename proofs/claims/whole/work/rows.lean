section
/-- a private method of a class that the tables say can be made, by its rows of tables_1 -/
def lw_okq (q : MethodName × Nat) : Prop := (q.1.cls ≠ "java/lang/invoke/MethodHandle" ∧ q.1.cls ≠ "java/lang/invoke/VarHandle") ∧ Cond.instantiable q.1.cls q.2 ∈ tables_1 ∧ Cond.privateMethod q.1 ∈ tables_1 ∧ Cond.instanceMethod q.1 ∈ tables_1
theorem lw_p0 : lw_okq (⟨"ProofChecker$Rules", "cellAt", "(II)I"⟩, 7) := ⟨⟨by decide +kernel, by decide +kernel⟩, List.mem_of_getElem? (i := 56) (by decide +kernel), List.mem_of_getElem? (i := 187) (by decide +kernel), List.mem_of_getElem? (i := 188) (by decide +kernel)⟩
theorem lw_p1 : lw_okq (⟨"ProofChecker$Rules", "areUnlike", "(I[I)Z"⟩, 7) := ⟨⟨by decide +kernel, by decide +kernel⟩, List.mem_of_getElem? (i := 56) (by decide +kernel), List.mem_of_getElem? (i := 195) (by decide +kernel), List.mem_of_getElem? (i := 196) (by decide +kernel)⟩
theorem lw_p2 : lw_okq (⟨"ProofChecker$Rules", "sum", "(I[I)I"⟩, 7) := ⟨⟨by decide +kernel, by decide +kernel⟩, List.mem_of_getElem? (i := 56) (by decide +kernel), List.mem_of_getElem? (i := 199) (by decide +kernel), List.mem_of_getElem? (i := 200) (by decide +kernel)⟩
theorem lw_p3 : lw_okq (⟨"ProofChecker$Rules", "rise", "(I[I)Z"⟩, 7) := ⟨⟨by decide +kernel, by decide +kernel⟩, List.mem_of_getElem? (i := 56) (by decide +kernel), List.mem_of_getElem? (i := 203) (by decide +kernel), List.mem_of_getElem? (i := 204) (by decide +kernel)⟩
theorem lw_p4 : lw_okq (⟨"ProofChecker$Rules", "likeTheFirst", "(I[I)I"⟩, 7) := ⟨⟨by decide +kernel, by decide +kernel⟩, List.mem_of_getElem? (i := 56) (by decide +kernel), List.mem_of_getElem? (i := 207) (by decide +kernel), List.mem_of_getElem? (i := 208) (by decide +kernel)⟩
theorem lw_p5 : lw_okq (⟨"ProofChecker$Rules", "cellsWithOne", "(I[I)I"⟩, 7) := ⟨⟨by decide +kernel, by decide +kernel⟩, List.mem_of_getElem? (i := 56) (by decide +kernel), List.mem_of_getElem? (i := 211) (by decide +kernel), List.mem_of_getElem? (i := 212) (by decide +kernel)⟩
theorem lw_p6 : lw_okq (⟨"ProofChecker$Grid", "nextTo", "(I)I"⟩, 5) := ⟨⟨by decide +kernel, by decide +kernel⟩, List.mem_of_getElem? (i := 25) (by decide +kernel), List.mem_of_getElem? (i := 219) (by decide +kernel), List.mem_of_getElem? (i := 220) (by decide +kernel)⟩
theorem lw_p7 : lw_okq (⟨"ProofChecker", "followsFromLinesAhead", "(I)Z"⟩, 6) := ⟨⟨by decide +kernel, by decide +kernel⟩, List.mem_of_getElem? (i := 17) (by decide +kernel), List.mem_of_getElem? (i := 256) (by decide +kernel), List.mem_of_getElem? (i := 257) (by decide +kernel)⟩
theorem lw_p8 : lw_okq (⟨"ProofChecker", "isByRule", "(II)Z"⟩, 6) := ⟨⟨by decide +kernel, by decide +kernel⟩, List.mem_of_getElem? (i := 17) (by decide +kernel), List.mem_of_getElem? (i := 272) (by decide +kernel), List.mem_of_getElem? (i := 273) (by decide +kernel)⟩
theorem lw_p9 : lw_okq (⟨"ProofChecker$Units", "narrow", "(IZ)V"⟩, 4) := ⟨⟨by decide +kernel, by decide +kernel⟩, List.mem_of_getElem? (i := 107) (by decide +kernel), List.mem_of_getElem? (i := 311) (by decide +kernel), List.mem_of_getElem? (i := 312) (by decide +kernel)⟩
theorem lw_p10 : lw_okq (⟨"ProofChecker$Rules", "canBeMet", "(ILProofChecker$Units;I)Z"⟩, 7) := ⟨⟨by decide +kernel, by decide +kernel⟩, List.mem_of_getElem? (i := 56) (by decide +kernel), List.mem_of_getElem? (i := 321) (by decide +kernel), List.mem_of_getElem? (i := 322) (by decide +kernel)⟩
theorem lw_p11 : lw_okq (⟨"ProofChecker$Units", "someCellMayBeNothing", "()Z"⟩, 4) := ⟨⟨by decide +kernel, by decide +kernel⟩, List.mem_of_getElem? (i := 107) (by decide +kernel), List.mem_of_getElem? (i := 340) (by decide +kernel), List.mem_of_getElem? (i := 341) (by decide +kernel)⟩
theorem lw_p12 : lw_okq (⟨"ProofChecker$Units", "stepBy", "(I)I"⟩, 4) := ⟨⟨by decide +kernel, by decide +kernel⟩, List.mem_of_getElem? (i := 107) (by decide +kernel), List.mem_of_getElem? (i := 345) (by decide +kernel), List.mem_of_getElem? (i := 346) (by decide +kernel)⟩
theorem lw_p13 : lw_okq (⟨"ProofChecker$Units", "stateOf", "(I)I"⟩, 4) := ⟨⟨by decide +kernel, by decide +kernel⟩, List.mem_of_getElem? (i := 107) (by decide +kernel), List.mem_of_getElem? (i := 349) (by decide +kernel), List.mem_of_getElem? (i := 350) (by decide +kernel)⟩
theorem lw_p14 : lw_okq (⟨"ProofChecker", "isBarred", "(I)Z"⟩, 6) := ⟨⟨by decide +kernel, by decide +kernel⟩, List.mem_of_getElem? (i := 17) (by decide +kernel), List.mem_of_getElem? (i := 365) (by decide +kernel), List.mem_of_getElem? (i := 366) (by decide +kernel)⟩
theorem lw_p15 : lw_okq (⟨"ProofChecker", "deniesOnlyWhatIsSaid", "(I)Z"⟩, 6) := ⟨⟨by decide +kernel, by decide +kernel⟩, List.mem_of_getElem? (i := 17) (by decide +kernel), List.mem_of_getElem? (i := 371) (by decide +kernel), List.mem_of_getElem? (i := 372) (by decide +kernel)⟩
def lw_privs_1 : List (MethodName × Nat) := [(⟨"ProofChecker$Rules", "cellAt", "(II)I"⟩, 7), (⟨"ProofChecker$Rules", "areUnlike", "(I[I)Z"⟩, 7), (⟨"ProofChecker$Rules", "sum", "(I[I)I"⟩, 7), (⟨"ProofChecker$Rules", "rise", "(I[I)Z"⟩, 7), (⟨"ProofChecker$Rules", "likeTheFirst", "(I[I)I"⟩, 7), (⟨"ProofChecker$Rules", "cellsWithOne", "(I[I)I"⟩, 7), (⟨"ProofChecker$Grid", "nextTo", "(I)I"⟩, 5), (⟨"ProofChecker", "followsFromLinesAhead", "(I)Z"⟩, 6), (⟨"ProofChecker", "isByRule", "(II)Z"⟩, 6), (⟨"ProofChecker$Units", "narrow", "(IZ)V"⟩, 4), (⟨"ProofChecker$Rules", "canBeMet", "(ILProofChecker$Units;I)Z"⟩, 7), (⟨"ProofChecker$Units", "someCellMayBeNothing", "()Z"⟩, 4), (⟨"ProofChecker$Units", "stepBy", "(I)I"⟩, 4), (⟨"ProofChecker$Units", "stateOf", "(I)I"⟩, 4), (⟨"ProofChecker", "isBarred", "(I)Z"⟩, 6), (⟨"ProofChecker", "deniesOnlyWhatIsSaid", "(I)Z"⟩, 6)]
theorem lw_r1 : ∀ q ∈ lw_privs_1, lw_okq q := List.forall_mem_cons.mpr ⟨lw_p0, List.forall_mem_cons.mpr ⟨lw_p1, List.forall_mem_cons.mpr ⟨lw_p2, List.forall_mem_cons.mpr ⟨lw_p3, List.forall_mem_cons.mpr ⟨lw_p4, List.forall_mem_cons.mpr ⟨lw_p5, List.forall_mem_cons.mpr ⟨lw_p6, List.forall_mem_cons.mpr ⟨lw_p7, List.forall_mem_cons.mpr ⟨lw_p8, List.forall_mem_cons.mpr ⟨lw_p9, List.forall_mem_cons.mpr ⟨lw_p10, List.forall_mem_cons.mpr ⟨lw_p11, List.forall_mem_cons.mpr ⟨lw_p12, List.forall_mem_cons.mpr ⟨lw_p13, List.forall_mem_cons.mpr ⟨lw_p14, List.forall_mem_cons.mpr ⟨lw_p15, fun _ h => absurd h List.not_mem_nil⟩⟩⟩⟩⟩⟩⟩⟩⟩⟩⟩⟩⟩⟩⟩⟩
theorem lw_p16 : lw_okq (⟨"ProofChecker$Reader", "readLine", "()Z"⟩, 5) := ⟨⟨by decide +kernel, by decide +kernel⟩, List.mem_of_getElem? (i := 126) (by decide +kernel), List.mem_of_getElem? (i := 401) (by decide +kernel), List.mem_of_getElem? (i := 402) (by decide +kernel)⟩
theorem lw_p17 : lw_okq (⟨"ProofChecker$Reader", "readHead", "()Z"⟩, 5) := ⟨⟨by decide +kernel, by decide +kernel⟩, List.mem_of_getElem? (i := 126) (by decide +kernel), List.mem_of_getElem? (i := 405) (by decide +kernel), List.mem_of_getElem? (i := 406) (by decide +kernel)⟩
theorem lw_p18 : lw_okq (⟨"ProofChecker$Reader", "isHere", "(C)Z"⟩, 5) := ⟨⟨by decide +kernel, by decide +kernel⟩, List.mem_of_getElem? (i := 126) (by decide +kernel), List.mem_of_getElem? (i := 409) (by decide +kernel), List.mem_of_getElem? (i := 410) (by decide +kernel)⟩
theorem lw_p19 : lw_okq (⟨"ProofChecker$Reader", "readNumber", "()I"⟩, 5) := ⟨⟨by decide +kernel, by decide +kernel⟩, List.mem_of_getElem? (i := 126) (by decide +kernel), List.mem_of_getElem? (i := 414) (by decide +kernel), List.mem_of_getElem? (i := 415) (by decide +kernel)⟩
theorem lw_p20 : lw_okq (⟨"ProofChecker$Reader", "digitHere", "()I"⟩, 5) := ⟨⟨by decide +kernel, by decide +kernel⟩, List.mem_of_getElem? (i := 126) (by decide +kernel), List.mem_of_getElem? (i := 418) (by decide +kernel), List.mem_of_getElem? (i := 419) (by decide +kernel)⟩
theorem lw_p21 : lw_okq (⟨"ProofChecker$Reader", "readLiteral", "(I)Z"⟩, 5) := ⟨⟨by decide +kernel, by decide +kernel⟩, List.mem_of_getElem? (i := 126) (by decide +kernel), List.mem_of_getElem? (i := 426) (by decide +kernel), List.mem_of_getElem? (i := 427) (by decide +kernel)⟩
theorem lw_p22 : lw_okq (⟨"ProofChecker$Reader", "readNumberBelow", "(I)I"⟩, 5) := ⟨⟨by decide +kernel, by decide +kernel⟩, List.mem_of_getElem? (i := 126) (by decide +kernel), List.mem_of_getElem? (i := 431) (by decide +kernel), List.mem_of_getElem? (i := 432) (by decide +kernel)⟩
theorem lw_p23 : lw_okq (⟨"ProofChecker", "needRule", "(I)V"⟩, 6) := ⟨⟨by decide +kernel, by decide +kernel⟩, List.mem_of_getElem? (i := 17) (by decide +kernel), List.mem_of_getElem? (i := 458) (by decide +kernel), List.mem_of_getElem? (i := 459) (by decide +kernel)⟩
theorem lw_p24 : lw_okq (⟨"java/lang/Throwable", "fillInStackTrace", "(I)Ljava/lang/Throwable;"⟩, 6) := ⟨⟨by decide +kernel, by decide +kernel⟩, List.mem_of_getElem? (i := 501) (by decide +kernel), List.mem_of_getElem? (i := 499) (by decide +kernel), List.mem_of_getElem? (i := 500) (by decide +kernel)⟩
theorem lw_p25 : lw_okq (⟨"ProofChecker", "needCell", "(I)V"⟩, 6) := ⟨⟨by decide +kernel, by decide +kernel⟩, List.mem_of_getElem? (i := 17) (by decide +kernel), List.mem_of_getElem? (i := 534) (by decide +kernel), List.mem_of_getElem? (i := 535) (by decide +kernel)⟩
theorem lw_p26 : lw_okq (⟨"ProofChecker", "needSymbol", "(I)V"⟩, 6) := ⟨⟨by decide +kernel, by decide +kernel⟩, List.mem_of_getElem? (i := 17) (by decide +kernel), List.mem_of_getElem? (i := 551) (by decide +kernel), List.mem_of_getElem? (i := 552) (by decide +kernel)⟩
theorem lw_p27 : lw_okq (⟨"ProofChecker", "toldLiteral", "(II)I"⟩, 6) := ⟨⟨by decide +kernel, by decide +kernel⟩, List.mem_of_getElem? (i := 17) (by decide +kernel), List.mem_of_getElem? (i := 599) (by decide +kernel), List.mem_of_getElem? (i := 600) (by decide +kernel)⟩
theorem lw_p28 : lw_okq (⟨"ProofCheckerModel", "isCell", "(I)Z"⟩, 23) := ⟨⟨by decide +kernel, by decide +kernel⟩, List.mem_of_getElem? (i := 614) (by decide +kernel), List.mem_of_getElem? (i := 705) (by decide +kernel), List.mem_of_getElem? (i := 706) (by decide +kernel)⟩
theorem lw_p29 : lw_okq (⟨"ProofCheckerModel", "cells", "()I"⟩, 23) := ⟨⟨by decide +kernel, by decide +kernel⟩, List.mem_of_getElem? (i := 614) (by decide +kernel), List.mem_of_getElem? (i := 709) (by decide +kernel), List.mem_of_getElem? (i := 710) (by decide +kernel)⟩
theorem lw_p30 : lw_okq (⟨"ProofCheckerModel", "throwsIf", "(IZ)Z"⟩, 23) := ⟨⟨by decide +kernel, by decide +kernel⟩, List.mem_of_getElem? (i := 614) (by decide +kernel), List.mem_of_getElem? (i := 713) (by decide +kernel), List.mem_of_getElem? (i := 714) (by decide +kernel)⟩
theorem lw_p31 : lw_okq (⟨"ProofCheckerModel", "seat", "(II)I"⟩, 23) := ⟨⟨by decide +kernel, by decide +kernel⟩, List.mem_of_getElem? (i := 614) (by decide +kernel), List.mem_of_getElem? (i := 717) (by decide +kernel), List.mem_of_getElem? (i := 718) (by decide +kernel)⟩
def lw_privs_2 : List (MethodName × Nat) := [(⟨"ProofChecker$Reader", "readLine", "()Z"⟩, 5), (⟨"ProofChecker$Reader", "readHead", "()Z"⟩, 5), (⟨"ProofChecker$Reader", "isHere", "(C)Z"⟩, 5), (⟨"ProofChecker$Reader", "readNumber", "()I"⟩, 5), (⟨"ProofChecker$Reader", "digitHere", "()I"⟩, 5), (⟨"ProofChecker$Reader", "readLiteral", "(I)Z"⟩, 5), (⟨"ProofChecker$Reader", "readNumberBelow", "(I)I"⟩, 5), (⟨"ProofChecker", "needRule", "(I)V"⟩, 6), (⟨"java/lang/Throwable", "fillInStackTrace", "(I)Ljava/lang/Throwable;"⟩, 6), (⟨"ProofChecker", "needCell", "(I)V"⟩, 6), (⟨"ProofChecker", "needSymbol", "(I)V"⟩, 6), (⟨"ProofChecker", "toldLiteral", "(II)I"⟩, 6), (⟨"ProofCheckerModel", "isCell", "(I)Z"⟩, 23), (⟨"ProofCheckerModel", "cells", "()I"⟩, 23), (⟨"ProofCheckerModel", "throwsIf", "(IZ)Z"⟩, 23), (⟨"ProofCheckerModel", "seat", "(II)I"⟩, 23)]
theorem lw_r2 : ∀ q ∈ lw_privs_2, lw_okq q := List.forall_mem_cons.mpr ⟨lw_p16, List.forall_mem_cons.mpr ⟨lw_p17, List.forall_mem_cons.mpr ⟨lw_p18, List.forall_mem_cons.mpr ⟨lw_p19, List.forall_mem_cons.mpr ⟨lw_p20, List.forall_mem_cons.mpr ⟨lw_p21, List.forall_mem_cons.mpr ⟨lw_p22, List.forall_mem_cons.mpr ⟨lw_p23, List.forall_mem_cons.mpr ⟨lw_p24, List.forall_mem_cons.mpr ⟨lw_p25, List.forall_mem_cons.mpr ⟨lw_p26, List.forall_mem_cons.mpr ⟨lw_p27, List.forall_mem_cons.mpr ⟨lw_p28, List.forall_mem_cons.mpr ⟨lw_p29, List.forall_mem_cons.mpr ⟨lw_p30, List.forall_mem_cons.mpr ⟨lw_p31, fun _ h => absurd h List.not_mem_nil⟩⟩⟩⟩⟩⟩⟩⟩⟩⟩⟩⟩⟩⟩⟩⟩
theorem lw_p32 : lw_okq (⟨"ProofCheckerModel", "member", "(II)I"⟩, 23) := ⟨⟨by decide +kernel, by decide +kernel⟩, List.mem_of_getElem? (i := 614) (by decide +kernel), List.mem_of_getElem? (i := 721) (by decide +kernel), List.mem_of_getElem? (i := 722) (by decide +kernel)⟩
theorem lw_p33 : lw_okq (⟨"ProofCheckerModel", "isSymbol", "(I)Z"⟩, 23) := ⟨⟨by decide +kernel, by decide +kernel⟩, List.mem_of_getElem? (i := 614) (by decide +kernel), List.mem_of_getElem? (i := 729) (by decide +kernel), List.mem_of_getElem? (i := 730) (by decide +kernel)⟩
theorem lw_p34 : lw_okq (⟨"ProofCheckerModel", "testRule", "(I)I"⟩, 23) := ⟨⟨by decide +kernel, by decide +kernel⟩, List.mem_of_getElem? (i := 614) (by decide +kernel), List.mem_of_getElem? (i := 737) (by decide +kernel), List.mem_of_getElem? (i := 738) (by decide +kernel)⟩
theorem lw_p35 : lw_okq (⟨"ProofCheckerModel", "meets", "(I)Z"⟩, 23) := ⟨⟨by decide +kernel, by decide +kernel⟩, List.mem_of_getElem? (i := 614) (by decide +kernel), List.mem_of_getElem? (i := 741) (by decide +kernel), List.mem_of_getElem? (i := 742) (by decide +kernel)⟩
theorem lw_p36 : lw_okq (⟨"ProofCheckerModel", "hangs", "(I)Z"⟩, 23) := ⟨⟨by decide +kernel, by decide +kernel⟩, List.mem_of_getElem? (i := 614) (by decide +kernel), List.mem_of_getElem? (i := 745) (by decide +kernel), List.mem_of_getElem? (i := 746) (by decide +kernel)⟩
theorem lw_p37 : lw_okq (⟨"ProofCheckerModel", "isNext", "(II)Z"⟩, 23) := ⟨⟨by decide +kernel, by decide +kernel⟩, List.mem_of_getElem? (i := 614) (by decide +kernel), List.mem_of_getElem? (i := 749) (by decide +kernel), List.mem_of_getElem? (i := 750) (by decide +kernel)⟩
theorem lw_p38 : lw_okq (⟨"ProofCheckerModel", "firstFailing", "()I"⟩, 23) := ⟨⟨by decide +kernel, by decide +kernel⟩, List.mem_of_getElem? (i := 614) (by decide +kernel), List.mem_of_getElem? (i := 757) (by decide +kernel), List.mem_of_getElem? (i := 758) (by decide +kernel)⟩
theorem lw_p39 : lw_okq (⟨"ProofCheckerModel", "begin", "(III)V"⟩, 23) := ⟨⟨by decide +kernel, by decide +kernel⟩, List.mem_of_getElem? (i := 614) (by decide +kernel), List.mem_of_getElem? (i := 765) (by decide +kernel), List.mem_of_getElem? (i := 766) (by decide +kernel)⟩
theorem lw_p40 : lw_okq (⟨"ProofCheckerModel", "literalOf", "(IIZ)I"⟩, 23) := ⟨⟨by decide +kernel, by decide +kernel⟩, List.mem_of_getElem? (i := 614) (by decide +kernel), List.mem_of_getElem? (i := 773) (by decide +kernel), List.mem_of_getElem? (i := 774) (by decide +kernel)⟩
theorem lw_p41 : lw_okq (⟨"ProofCheckerModel", "has", "(II)Z"⟩, 23) := ⟨⟨by decide +kernel, by decide +kernel⟩, List.mem_of_getElem? (i := 614) (by decide +kernel), List.mem_of_getElem? (i := 777) (by decide +kernel), List.mem_of_getElem? (i := 778) (by decide +kernel)⟩
theorem lw_p42 : lw_okq (⟨"ProofCheckerModel", "add", "(II)V"⟩, 23) := ⟨⟨by decide +kernel, by decide +kernel⟩, List.mem_of_getElem? (i := 614) (by decide +kernel), List.mem_of_getElem? (i := 781) (by decide +kernel), List.mem_of_getElem? (i := 782) (by decide +kernel)⟩
theorem lw_p43 : lw_okq (⟨"ProofCheckerModel", "right", "()I"⟩, 23) := ⟨⟨by decide +kernel, by decide +kernel⟩, List.mem_of_getElem? (i := 614) (by decide +kernel), List.mem_of_getElem? (i := 793) (by decide +kernel), List.mem_of_getElem? (i := 794) (by decide +kernel)⟩
theorem lw_p44 : lw_okq (⟨"ProofCheckerModel", "isRight", "(I)Z"⟩, 23) := ⟨⟨by decide +kernel, by decide +kernel⟩, List.mem_of_getElem? (i := 614) (by decide +kernel), List.mem_of_getElem? (i := 797) (by decide +kernel), List.mem_of_getElem? (i := 798) (by decide +kernel)⟩
theorem lw_p45 : lw_okq (⟨"ProofCheckerModel", "byRule", "(I)Z"⟩, 23) := ⟨⟨by decide +kernel, by decide +kernel⟩, List.mem_of_getElem? (i := 614) (by decide +kernel), List.mem_of_getElem? (i := 801) (by decide +kernel), List.mem_of_getElem? (i := 802) (by decide +kernel)⟩
theorem lw_p46 : lw_okq (⟨"ProofCheckerModel", "isFilled", "(II)Z"⟩, 23) := ⟨⟨by decide +kernel, by decide +kernel⟩, List.mem_of_getElem? (i := 614) (by decide +kernel), List.mem_of_getElem? (i := 805) (by decide +kernel), List.mem_of_getElem? (i := 806) (by decide +kernel)⟩
theorem lw_p47 : lw_okq (⟨"ProofCheckerModel", "cellOf", "(I)I"⟩, 23) := ⟨⟨by decide +kernel, by decide +kernel⟩, List.mem_of_getElem? (i := 614) (by decide +kernel), List.mem_of_getElem? (i := 809) (by decide +kernel), List.mem_of_getElem? (i := 810) (by decide +kernel)⟩
def lw_privs_3 : List (MethodName × Nat) := [(⟨"ProofCheckerModel", "member", "(II)I"⟩, 23), (⟨"ProofCheckerModel", "isSymbol", "(I)Z"⟩, 23), (⟨"ProofCheckerModel", "testRule", "(I)I"⟩, 23), (⟨"ProofCheckerModel", "meets", "(I)Z"⟩, 23), (⟨"ProofCheckerModel", "hangs", "(I)Z"⟩, 23), (⟨"ProofCheckerModel", "isNext", "(II)Z"⟩, 23), (⟨"ProofCheckerModel", "firstFailing", "()I"⟩, 23), (⟨"ProofCheckerModel", "begin", "(III)V"⟩, 23), (⟨"ProofCheckerModel", "literalOf", "(IIZ)I"⟩, 23), (⟨"ProofCheckerModel", "has", "(II)Z"⟩, 23), (⟨"ProofCheckerModel", "add", "(II)V"⟩, 23), (⟨"ProofCheckerModel", "right", "()I"⟩, 23), (⟨"ProofCheckerModel", "isRight", "(I)Z"⟩, 23), (⟨"ProofCheckerModel", "byRule", "(I)Z"⟩, 23), (⟨"ProofCheckerModel", "isFilled", "(II)Z"⟩, 23), (⟨"ProofCheckerModel", "cellOf", "(I)I"⟩, 23)]
theorem lw_r3 : ∀ q ∈ lw_privs_3, lw_okq q := List.forall_mem_cons.mpr ⟨lw_p32, List.forall_mem_cons.mpr ⟨lw_p33, List.forall_mem_cons.mpr ⟨lw_p34, List.forall_mem_cons.mpr ⟨lw_p35, List.forall_mem_cons.mpr ⟨lw_p36, List.forall_mem_cons.mpr ⟨lw_p37, List.forall_mem_cons.mpr ⟨lw_p38, List.forall_mem_cons.mpr ⟨lw_p39, List.forall_mem_cons.mpr ⟨lw_p40, List.forall_mem_cons.mpr ⟨lw_p41, List.forall_mem_cons.mpr ⟨lw_p42, List.forall_mem_cons.mpr ⟨lw_p43, List.forall_mem_cons.mpr ⟨lw_p44, List.forall_mem_cons.mpr ⟨lw_p45, List.forall_mem_cons.mpr ⟨lw_p46, List.forall_mem_cons.mpr ⟨lw_p47, fun _ h => absurd h List.not_mem_nil⟩⟩⟩⟩⟩⟩⟩⟩⟩⟩⟩⟩⟩⟩⟩⟩
theorem lw_p48 : lw_okq (⟨"ProofCheckerModel", "symbolOf", "(I)I"⟩, 23) := ⟨⟨by decide +kernel, by decide +kernel⟩, List.mem_of_getElem? (i := 614) (by decide +kernel), List.mem_of_getElem? (i := 813) (by decide +kernel), List.mem_of_getElem? (i := 814) (by decide +kernel)⟩
theorem lw_p49 : lw_okq (⟨"ProofCheckerModel", "turned", "(I)V"⟩, 23) := ⟨⟨by decide +kernel, by decide +kernel⟩, List.mem_of_getElem? (i := 614) (by decide +kernel), List.mem_of_getElem? (i := 817) (by decide +kernel), List.mem_of_getElem? (i := 818) (by decide +kernel)⟩
theorem lw_p50 : lw_okq (⟨"ProofCheckerModel", "all", "()V"⟩, 23) := ⟨⟨by decide +kernel, by decide +kernel⟩, List.mem_of_getElem? (i := 614) (by decide +kernel), List.mem_of_getElem? (i := 821) (by decide +kernel), List.mem_of_getElem? (i := 822) (by decide +kernel)⟩
theorem lw_p51 : lw_okq (⟨"ProofCheckerModel", "make", "(I)V"⟩, 23) := ⟨⟨by decide +kernel, by decide +kernel⟩, List.mem_of_getElem? (i := 614) (by decide +kernel), List.mem_of_getElem? (i := 825) (by decide +kernel), List.mem_of_getElem? (i := 826) (by decide +kernel)⟩
theorem lw_p52 : lw_okq (⟨"ProofCheckerModel", "units", "(I)V"⟩, 23) := ⟨⟨by decide +kernel, by decide +kernel⟩, List.mem_of_getElem? (i := 614) (by decide +kernel), List.mem_of_getElem? (i := 829) (by decide +kernel), List.mem_of_getElem? (i := 830) (by decide +kernel)⟩
theorem lw_p53 : lw_okq (⟨"ProofCheckerModel", "how", "(I)I"⟩, 23) := ⟨⟨by decide +kernel, by decide +kernel⟩, List.mem_of_getElem? (i := 614) (by decide +kernel), List.mem_of_getElem? (i := 833) (by decide +kernel), List.mem_of_getElem? (i := 834) (by decide +kernel)⟩
theorem lw_p54 : lw_okq (⟨"ProofCheckerModel", "bySplit", "(I)Z"⟩, 23) := ⟨⟨by decide +kernel, by decide +kernel⟩, List.mem_of_getElem? (i := 614) (by decide +kernel), List.mem_of_getElem? (i := 837) (by decide +kernel), List.mem_of_getElem? (i := 838) (by decide +kernel)⟩
theorem lw_p55 : lw_okq (⟨"ProofCheckerModel", "isBarred", "(I)Z"⟩, 23) := ⟨⟨by decide +kernel, by decide +kernel⟩, List.mem_of_getElem? (i := 614) (by decide +kernel), List.mem_of_getElem? (i := 841) (by decide +kernel), List.mem_of_getElem? (i := 842) (by decide +kernel)⟩
theorem lw_p56 : lw_okq (⟨"ProofCheckerModel", "readLine", "(II)V"⟩, 23) := ⟨⟨by decide +kernel, by decide +kernel⟩, List.mem_of_getElem? (i := 614) (by decide +kernel), List.mem_of_getElem? (i := 865) (by decide +kernel), List.mem_of_getElem? (i := 866) (by decide +kernel)⟩
theorem lw_p57 : lw_okq (⟨"ProofCheckerModel", "look", "()I"⟩, 23) := ⟨⟨by decide +kernel, by decide +kernel⟩, List.mem_of_getElem? (i := 614) (by decide +kernel), List.mem_of_getElem? (i := 869) (by decide +kernel), List.mem_of_getElem? (i := 870) (by decide +kernel)⟩
theorem lw_p58 : lw_okq (⟨"ProofCheckerModel", "wrong", "(I)V"⟩, 23) := ⟨⟨by decide +kernel, by decide +kernel⟩, List.mem_of_getElem? (i := 614) (by decide +kernel), List.mem_of_getElem? (i := 873) (by decide +kernel), List.mem_of_getElem? (i := 874) (by decide +kernel)⟩
theorem lw_p59 : lw_okq (⟨"ProofCheckerModel", "number", "()I"⟩, 23) := ⟨⟨by decide +kernel, by decide +kernel⟩, List.mem_of_getElem? (i := 614) (by decide +kernel), List.mem_of_getElem? (i := 877) (by decide +kernel), List.mem_of_getElem? (i := 878) (by decide +kernel)⟩
theorem lw_p60 : lw_okq (⟨"ProofCheckerModel", "isDigit", "()Z"⟩, 23) := ⟨⟨by decide +kernel, by decide +kernel⟩, List.mem_of_getElem? (i := 614) (by decide +kernel), List.mem_of_getElem? (i := 881) (by decide +kernel), List.mem_of_getElem? (i := 882) (by decide +kernel)⟩
theorem lw_p61 : lw_okq (⟨"ProofCheckerModel", "readLiteral", "(I)V"⟩, 23) := ⟨⟨by decide +kernel, by decide +kernel⟩, List.mem_of_getElem? (i := 614) (by decide +kernel), List.mem_of_getElem? (i := 885) (by decide +kernel), List.mem_of_getElem? (i := 886) (by decide +kernel)⟩
theorem lw_p62 : lw_okq (⟨"ProofCheckerModel", "expect", "(I)V"⟩, 23) := ⟨⟨by decide +kernel, by decide +kernel⟩, List.mem_of_getElem? (i := 614) (by decide +kernel), List.mem_of_getElem? (i := 889) (by decide +kernel), List.mem_of_getElem? (i := 890) (by decide +kernel)⟩
def lw_privs_4 : List (MethodName × Nat) := [(⟨"ProofCheckerModel", "symbolOf", "(I)I"⟩, 23), (⟨"ProofCheckerModel", "turned", "(I)V"⟩, 23), (⟨"ProofCheckerModel", "all", "()V"⟩, 23), (⟨"ProofCheckerModel", "make", "(I)V"⟩, 23), (⟨"ProofCheckerModel", "units", "(I)V"⟩, 23), (⟨"ProofCheckerModel", "how", "(I)I"⟩, 23), (⟨"ProofCheckerModel", "bySplit", "(I)Z"⟩, 23), (⟨"ProofCheckerModel", "isBarred", "(I)Z"⟩, 23), (⟨"ProofCheckerModel", "readLine", "(II)V"⟩, 23), (⟨"ProofCheckerModel", "look", "()I"⟩, 23), (⟨"ProofCheckerModel", "wrong", "(I)V"⟩, 23), (⟨"ProofCheckerModel", "number", "()I"⟩, 23), (⟨"ProofCheckerModel", "isDigit", "()Z"⟩, 23), (⟨"ProofCheckerModel", "readLiteral", "(I)V"⟩, 23), (⟨"ProofCheckerModel", "expect", "(I)V"⟩, 23)]
theorem lw_r4 : ∀ q ∈ lw_privs_4, lw_okq q := List.forall_mem_cons.mpr ⟨lw_p48, List.forall_mem_cons.mpr ⟨lw_p49, List.forall_mem_cons.mpr ⟨lw_p50, List.forall_mem_cons.mpr ⟨lw_p51, List.forall_mem_cons.mpr ⟨lw_p52, List.forall_mem_cons.mpr ⟨lw_p53, List.forall_mem_cons.mpr ⟨lw_p54, List.forall_mem_cons.mpr ⟨lw_p55, List.forall_mem_cons.mpr ⟨lw_p56, List.forall_mem_cons.mpr ⟨lw_p57, List.forall_mem_cons.mpr ⟨lw_p58, List.forall_mem_cons.mpr ⟨lw_p59, List.forall_mem_cons.mpr ⟨lw_p60, List.forall_mem_cons.mpr ⟨lw_p61, List.forall_mem_cons.mpr ⟨lw_p62, fun _ h => absurd h List.not_mem_nil⟩⟩⟩⟩⟩⟩⟩⟩⟩⟩⟩⟩⟩⟩⟩
def lw_privs : List (MethodName × Nat) := lw_privs_1 ++ (lw_privs_2 ++ (lw_privs_3 ++ (lw_privs_4)))
def lw_tbl : List Cond := k2_sels lw_privs ++ tables_1
theorem lw_privs_ok : ∀ q ∈ lw_privs, lw_okq q := by
  show ∀ q ∈ lw_privs_1 ++ (lw_privs_2 ++ (lw_privs_3 ++ (lw_privs_4))), lw_okq q
  exact List.forall_mem_append.mpr ⟨lw_r1, List.forall_mem_append.mpr ⟨lw_r2, List.forall_mem_append.mpr ⟨lw_r3, lw_r4⟩⟩⟩
end
section
/-! ===== BEGIN words of one list among another's, by their places ===== -/
theorem goodIn_r {big : List Cond} (ws : List Cond) (ps : List Nat) (hp : ws = ps.filterMap (fun i => big[i]?)) (h : ws.all goodWord = true) : GoodIn big ws := by
  intro w hw
  have h1 := List.all_eq_true.mp h w hw
  rw [hp] at hw
  obtain ⟨i, -, hi⟩ := List.mem_filterMap.mp hw
  have hm : w ∈ big := by first | exact List.mem_of_getElem? hi | exact List.getElem?_mem hi
  exact ⟨hm, good_of_word h1⟩
theorem goodIn_app {big a b : List Cond} (ha : GoodIn big a) (hb : GoodIn big b) : GoodIn big (a ++ b) := fun w h => (List.mem_append.mp h).elim (ha w) (hb w)
theorem goodIn_ca {big a b : List Cond} {c : Cond} (ha : GoodIn big (c :: a)) (hb : GoodIn big b) : GoodIn big (c :: (a ++ b)) := fun w h => (List.mem_cons.mp h).elim (fun e => ha w (List.mem_cons.mpr (Or.inl e))) (fun h => (List.mem_append.mp h).elim (fun h => ha w (List.mem_cons.mpr (Or.inr h))) (hb w))
theorem goodIn_sub {big ws : List Cond} (hm : ∀ w ∈ ws, w ∈ big) (h : ws.all goodWord = true) : GoodIn big ws := fun w hw => ⟨hm w hw, good_of_word (List.all_eq_true.mp h w hw)⟩
/-! ===== END ===== -/

/-! ===== BEGIN exceptions that leave a method, and their catching by the caller (launches without stack traces) ===== -/
section VXA
/-! The laws vx_back, vx_callV, vx_callS, vx_callSW, vx_throw0, vx_throwS follow proofs of the library, with one case more: JvmDerived/Free/Laws.lean (Back.of_free), Shelf42/LK1.lean (callV, callS), Shelf/KitTraced.lean (throwNew0V, throwNewS). -/
/-- where a method has thrown q: the class by its name, the cell, what was written, the world -/
def vx_T (XC : String → State → State → Prop) (st : State) (q : Addr) (t : State) (mc ms : Nat) (free : Addr → Prop) : Prop :=
  ∃ (E : String) (ce : Cell) (L : List Loc), XC E st t ∧ t.heap[q]? = some ce ∧ ce.vm = .none ∧ st.vm.findClass E = some ce.cls ∧ st.WarmedH t.vm ∧ st.sameButNew ({ t with vm := st.vm } : State) L mc ms ∧ ∀ z ∈ L, free z.base
def vx_Q (Qc : Array Value → State → Outcome → State → Prop) (XC : String → State → State → Prop) (mc ms : Nat) (free : Addr → Prop) : Array Value → State → Outcome → State → Prop := fun a st o t =>
  (Qc a st o t ∧ ∃ L, FrameEnd st o t L mc ms ∧ ∀ q ∈ L, free q.base) ∨ ∃ q, o = .threw q ∧ vx_T XC st q t mc ms free
/-- a callee that returns or throws -/
def vx_Met (l : Launch) (y : MethodName) (ws : List Cond) (rm : Room) (Pc : Array Value → State → Prop) (Qc : Array Value → State → Outcome → State → Prop) (XC : String → State → State → Prop) (mc ms : Nat) (free : Addr → Prop) : Prop :=
  MetFree l y (headSpec ws rm) Pc (fun _ _ _ _ _ => True) (vx_Q Qc XC mc ms free)
def vx_Post (XC : String → State → State → Prop) (mc ms : Nat) (free : Addr → Prop) : Pt → Array Value → Addr → Pt → Prop := fun A a q B =>
  ∃ (g : JFrame) (mk : MethodId) (t : State) (L : List Loc) (E : String) (ce : Cell), B.U.heap = t.heap ∧ B.U.vm = t.vm ∧ XC E (A.U.calling g mk a) t ∧ t.heap[q]? = some ce ∧ ce.vm = .none ∧ A.U.vm.findClass E = some ce.cls ∧ B.locs = A.locs ++ L ∧ (∀ z ∈ L, free z.base) ∧ B.cells = A.cells + mc ∧ B.slots = A.slots + ms
def vx_Back (l : Launch) (R : Room) (p : Program) (e : Env) (below : List Frame) (s : State) (sargs : Array Value) (y : MethodName) (len W9 : Nat)
    (Pre : Pt → Array Value → Prop) (Post : Pt → Array Value → Option Value → Pt → Prop) (PostX : Pt → Array Value → Addr → Pt → Prop) : Prop :=
  ∀ (m : MethodId) (meth : Method) (c : Code) (A : Pt) (g : JFrame) (ig : Instr) (mk : MethodId) (a : Array Value),
    Stand p l e R s m sargs below meth c A.U A.locs A.cells A.slots → g.method = m → g.locals.size = c.maxLocals → decode c.code g.pc = .ok (ig, len) →
    2 * g.monitorRoom + (g.stack.map fun v => v.category).sum ≤ W9 → A.U.methodNamed? y = some mk → Pre A a →
    (∃ (v : Option Value) (B : Pt), Stand p l e R s m sargs below meth c B.U B.locs B.cells B.slots ∧ Post A a v B ∧
      Steps p.tables e below (doInvoke e (A.U.setTop g) [] mk a).1 (B.U.setTop { g with pc := g.pc + len, stack := v.toList ++ g.stack })) ∨
    (∃ (q : Addr) (B : Pt), Stand p l e R s m sargs below meth c B.U B.locs B.cells B.slots ∧ PostX A a q B ∧
      Steps p.tables e below (doInvoke e (A.U.setTop g) [] mk a).1 ((B.U.setTop g).pushFrame (.throwing q)))
section Payer
variable {l : Launch} {R : Room} {p : Program} {e : Env} {below : List Frame} {s : State} {sargs : Array Value} {y : MethodName} {len W9 : Nat}
theorem vx_back {ws : List Cond} {rm : Room} {Pc : Array Value → State → Prop} {Qc : Array Value → State → Outcome → State → Prop} {XC : String → State → State → Prop} {mc ms : Nat} {free : Addr → Prop} {bytes : ByteArray} {maxL : Nat} {ret : Option FieldType}
    (hM : vx_Met l y ws rm Pc Qc XC mc ms free) (hblind : FrameBlind Pc) (hrc : rm.cells = mc) (hrs : rm.slots = ms)
    (hframes : rm.frames + 1 ≤ R.frames) (hlocals : W9 + (maxL + 11) + rm.locals ≤ R.locals)
    (hws : ∀ w ∈ ws, ∀ a' U, s.WarmedH U.vm → w.before a' U = true) (hcode : Cond.code y bytes maxL ret ∈ ws) (hinit : ∀ a' U, s.WarmedH U.vm → (Cond.initialized y.cls).before a' U = true) :
    vx_Back l R p e below s sargs y len W9 (PreOf R mc ms Pc) (PostOf Qc mc ms free) (vx_Post XC mc ms free) := by
  intro m meth c A g ig mk a X hg hsize hdg hW hn hp
  have h1 : (headSpec ws rm).pre.before a A.U = true := atoms_intro fun w hw => hws w hw _ _ X.warmed
  have h2 : (Cond.code y bytes maxL ret).before a A.U = true := hws _ hcode _ _ X.warmed
  have h3 : (Cond.initialized y.cls).before a A.U = true := hinit _ _ X.warmed
  have h4 : A.cells + (headSpec ws rm).room.cells ≤ R.cells := by rw [show (headSpec ws rm).room.cells = mc from hrc]; exact hp.1
  have h5 : A.slots + (headSpec ws rm).room.slots ≤ R.slots := by rw [show (headSpec ws rm).room.slots = ms from hrs]; exact hp.2.1
  have hPc : Pc a (A.U.calling g mk a) := hblind _ _ _ _ hp.2.2
  obtain ⟨U, Ls, c0, s0⟩ := A
  dsimp only [Pt.U, Pt.locs, Pt.cells, Pt.slots] at h1 h2 h3 h4 h5 X hn hPc ⊢
  obtain ⟨methY, cY, hmY, hcY, -, hlY, -, -, -, -⟩ := Cond.code_spec hn h2
  obtain ⟨kY, hkY, -⟩ := className_of_methodNamed hn
  have hinitY : kY.init = .initialized := Cond.initialized_spec (findClass_of_methodNamed hn) hkY h3
  have h : At U g.method c below := by rw [hg]; exact X.here
  have hlocals9 : W9 + (maxL + 11) + (headSpec ws rm).room.locals ≤ R.locals := hlocals
  have happ : (headSpec ws rm).appliesLoose y e.platform (U.calling g mk a) = true :=
    Spec.appliesLoose_calling (g := g) h hdg hn hkY hinitY
      (X.room_calling (g := g) (R' := (headSpec ws rm).room) hsize hmY hcY hframes (by rw [hlY]; omega) h4 h5) h1
  obtain ⟨mid, hmid⟩ := h.above
  have hfr : (U.setTop g).frames = (.java g :: mid) ++ below := by rw [State.frames_setTop' g h.top, hmid]; rfl
  obtain ⟨o, s₂, hsteps, -, hend, hq⟩ := Steps.callFree hM p X.admits X.cas X.clock (acts := []) hfr happ hPc trivial
  have hq' : vx_Q Qc XC mc ms free a (U.calling g mk a) o s₂ := hq
  rw [State.frames_setTop' g h.top] at hend
  obtain ⟨g₀, hg0⟩ := Option.isSome_iff_exists.mp h.top
  obtain ⟨r, hr⟩ := State.topJava?_eq_some.mp hg0
  have hr' : (({ U with heap := s₂.heap, slotsUsed := s₂.slotsUsed } : State).setVm s₂.vm).frames = .java g₀ :: r := hr
  rcases hq' with ⟨hqc, L, hfe, hL⟩ | ⟨q, rfl, E, ce, L, hx, hce, hcv, hcl, hW₂, hsm, hL⟩
  · obtain ⟨⟨v, rfl⟩, hW₂, e2, q2, q3, q4, q5, q6⟩ := id hfe
    have e3 : s₂ = ({ (U.calling g mk a).setFrames s₂.frames with heap := s₂.heap, slotsUsed := s₂.slotsUsed } : State).setVm s₂.vm := by
      have : s₂ = ({ s₂ with vm := (U.calling g mk a).vm } : State).setVm s₂.vm := rfl
      rw [e2] at this
      exact this
    obtain ⟨c₂, i₂, len₂, hc₂, hd₂, hf₂⟩ := hend
    have hW' : U.WarmedH s₂.vm := hW₂
    have hcc : c₂ = c := by
      have h1 : s₂.code? g.method = U.code? g.method := by
        rw [State.code?_eq, State.code?_eq, hW'.alike.method?]
      exact Option.some.inj (hc₂.symm.trans (h1.trans h.code))
    subst hcc
    have hlen : len₂ = len := by rw [hdg] at hd₂; cases hd₂; rfl
    subst hlen
    have hs₂ : s₂ = (({ U with heap := s₂.heap, slotsUsed := s₂.slotsUsed } : State).setVm s₂.vm).setTop { g with pc := g.pc + len₂, stack := v.toList ++ g.stack } := by
      refine e3.trans ?_
      rw [hf₂, State.calling_eq h.top, State.setFrames_setFrames, State.setTop_of_frames _ hr', hr]
      rfl
    have hsame : U.sameButNew ({ U with heap := s₂.heap, slotsUsed := s₂.slotsUsed } : State) L mc ms := by
      refine ⟨?_, q2, q3, q4, q5, q6⟩
      obtain ⟨t, ht, -⟩ := State.frames_cons hr
      show ({ U with heap := s₂.heap, slotsUsed := s₂.slotsUsed } : State) = { U.setFrames U.frames with heap := s₂.heap, slotsUsed := s₂.slotsUsed }
      rw [State.setFrames_self ht]
    subst hg
    refine Or.inl ⟨v, ⟨(({ U with heap := s₂.heap, slotsUsed := s₂.slotsUsed } : State).setVm s₂.vm), Ls ++ L, c0 + mc, s0 + ms⟩,
      ⟨X.admits, X.cas, X.clock, X.frames, X.room, X.hears, X.method, X.code, (X.here.setHeapUsed s₂.heap s₂.slotsUsed).setVm hW'.alike, X.tail, State.WarmedH.trans X.warmed hW', X.limits, X.bytes, X.same.trans (hsame.setVm s.vm)⟩,
      ⟨g, mk, s₂, L, rfl, rfl, hqc, rfl, hL, rfl, rfl⟩, ?_⟩
    show Steps p.tables e below _ ((({ U with heap := s₂.heap, slotsUsed := s₂.slotsUsed } : State).setVm s₂.vm).setTop { g with pc := g.pc + len₂, stack := v.toList ++ g.stack })
    rw [← hs₂]
    exact hsteps
  · obtain ⟨e2, q2, q3, q4, q5, q6⟩ := id hsm
    have e3 : s₂ = ({ (U.calling g mk a).setFrames s₂.frames with heap := s₂.heap, slotsUsed := s₂.slotsUsed } : State).setVm s₂.vm := by
      have : s₂ = ({ s₂ with vm := (U.calling g mk a).vm } : State).setVm s₂.vm := rfl
      rw [e2] at this
      exact this
    have hf₂ : s₂.frames = .throwing q :: .java g :: U.frames.tail := hend
    have hW' : U.WarmedH s₂.vm := hW₂
    have hs₂ : s₂ = ((({ U with heap := s₂.heap, slotsUsed := s₂.slotsUsed } : State).setVm s₂.vm).setTop g).pushFrame (.throwing q) := by
      refine e3.trans ?_
      rw [hf₂, State.calling_eq h.top, State.setFrames_setFrames, State.pushFrame, State.frames_setTop _ hr', State.setTop_of_frames _ hr', State.setFrames_setFrames, hr]
      rfl
    have hsame : U.sameButNew ({ U with heap := s₂.heap, slotsUsed := s₂.slotsUsed } : State) L mc ms := by
      refine ⟨?_, q2, q3, q4, q5, q6⟩
      obtain ⟨t, ht, -⟩ := State.frames_cons hr
      show ({ U with heap := s₂.heap, slotsUsed := s₂.slotsUsed } : State) = { U.setFrames U.frames with heap := s₂.heap, slotsUsed := s₂.slotsUsed }
      rw [State.setFrames_self ht]
    subst hg
    refine Or.inr ⟨q, ⟨(({ U with heap := s₂.heap, slotsUsed := s₂.slotsUsed } : State).setVm s₂.vm), Ls ++ L, c0 + mc, s0 + ms⟩,
      ⟨X.admits, X.cas, X.clock, X.frames, X.room, X.hears, X.method, X.code, (X.here.setHeapUsed s₂.heap s₂.slotsUsed).setVm hW'.alike, X.tail, State.WarmedH.trans X.warmed hW', X.limits, X.bytes, X.same.trans (hsame.setVm s.vm)⟩,
      ⟨g, mk, s₂, L, E, ce, rfl, rfl, hx, hce, hcv, hcl, rfl, hL, rfl, rfl⟩, ?_⟩
    show Steps p.tables e below _ (((({ U with heap := s₂.heap, slotsUsed := s₂.slotsUsed } : State).setVm s₂.vm).setTop g).pushFrame (.throwing q))
    rw [← hs₂]
    exact hsteps
end Payer
section Calls
variable {p : Program} {l : Launch} {e : Env} {R : Room} {s : State} {m : MethodId} {args : Array Value} {below : List Frame} {meth : Method} {c : Code} {T : State} {locs : List Loc} {cells slots : Nat}
theorem vx_callV (X : Stand p l e R s m args below meth c T locs cells slots) (hexec : p.tables.exec = Jvm.exec) {own C : String} {index : Nat} {y : MethodName} {bytes : ByteArray} {maxL : Nat} {ret : Option FieldType}
    (hown : s.vm.findClass own = some m.cls) (hlink : (Cond.methodLink own index y).before args s = true) (hinst : (Cond.instanceMethod y).before args s = true) (hsel : (Cond.selects C y y).before args s = true)
    (hcode : (Cond.code y bytes maxL ret).before args s = true) (hy : y.cls ≠ "java/lang/invoke/MethodHandle" ∧ y.cls ≠ "java/lang/invoke/VarHandle")
    {W9 : Nat} {Pre : Pt → Array Value → Prop} {Post : Pt → Array Value → Option Value → Pt → Prop} {PostX : Pt → Array Value → Addr → Pt → Prop} (hK : vx_Back l R p e below s args y 3 W9 Pre Post PostX)
    {b : Addr} {cellB : Cell} (hcell : T.heap[b]? = some cellB) (hobj : cellB.vm.isStatics = false) (hcls : s.vm.findClass C = some cellB.cls)
    {g : JFrame} (hg : g.method = m) (hsize : g.locals.size = c.maxLocals) {argsL rest : List Value} (hlen : ∀ sig, parseMethodDescriptor y.desc = some sig → argsL.length = sig.parameters.length)
    (hstack : g.stack = argsL.reverse ++ .ref b :: rest) (hW : 2 * g.monitorRoom + (rest.map fun v => v.category).sum ≤ W9) (hdg : decode c.code g.pc = .ok (.invokevirtual index, 3))
    (hpre : ∀ vm₁, s.WarmedH vm₁ → Pre ⟨T.setVm vm₁, locs, cells, slots⟩ (Value.ref b :: argsL).toArray) :
    (∃ (v : Option Value) (vm₁ : Vm) (B : Pt), s.WarmedH vm₁ ∧ Stand p l e R s m args below meth c B.U B.locs B.cells B.slots ∧ Post ⟨T.setVm vm₁, locs, cells, slots⟩ (Value.ref b :: argsL).toArray v B ∧
      ∀ target, Steps p.tables e below (B.U.setTop { g with pc := g.pc + 3, stack := v.toList ++ rest }) target → Steps p.tables e below (T.setTop g) target) ∨
    (∃ (q : Addr) (vm₁ : Vm) (B : Pt), s.WarmedH vm₁ ∧ Stand p l e R s m args below meth c B.U B.locs B.cells B.slots ∧ PostX ⟨T.setVm vm₁, locs, cells, slots⟩ (Value.ref b :: argsL).toArray q B ∧
      Steps p.tables e below (T.setTop g) ((B.U.setTop { g with stack := rest }).pushFrame (.throwing q))) := by
  obtain ⟨mk, methM, hnamed, hmethM, hstM, habM⟩ := Cond.instanceMethod_spec hinst
  obtain ⟨methM', cM, hmethM', -, -, -, -, -, -, hsigM⟩ := Cond.code_spec hnamed hcode
  cases hmethM.symm.trans hmethM'
  obtain ⟨c2, r2, m2, q1, q2, q3, q4, kP, hkP, hkPi⟩ := Cond.selects_spec hsel
  cases hcls.symm.trans q1
  cases (State.methodFound?_of_named hnamed hy).symm.trans q2
  cases hnamed.symm.trans q3
  have hselP : selectMethod e.platform s.vm cellB.cls mk = .method mk := by rw [Launch.admits_selectMethod X.admits]; exact q4
  obtain ⟨vm₁, X₁, hstep₁⟩ := X.invokevirtual hexec hown hlink hnamed hmethM hstM hkP hkPi hy (a := b) (cell := cellB) hcell
    (fun z h => by rw [h] at hobj; cases hobj) hselP hmethM habM hkP hkPi (g := g) hg (argsL := argsL) (rest := rest) (hlen _ hsigM) hstack hdg
  rcases hK m meth c ⟨T.setVm vm₁, locs, cells, slots⟩ { g with stack := rest } (.invokevirtual index) mk (Value.ref b :: argsL).toArray X₁ hg hsize hdg hW (X₁.named hnamed) (hpre vm₁ X₁.warmed) with ⟨v, B, X', hpost, hsteps⟩ | ⟨q, B, X', hpost, hsteps⟩
  · exact Or.inl ⟨v, vm₁, B, X₁.warmed, X', hpost, fun target h => hstep₁ _ fun acts => by rw [doInvoke_state]; exact hsteps.trans h⟩
  · exact Or.inr ⟨q, vm₁, B, X₁.warmed, X', hpost, hstep₁ _ fun acts => by rw [doInvoke_state]; exact hsteps⟩
theorem vx_callS (X : Stand p l e R s m args below meth c T locs cells slots) (hexec : p.tables.exec = Jvm.exec) {own : String} {index : Nat} {y : MethodName} {bytes : ByteArray} {maxL : Nat} {ret : Option FieldType}
    (hown : s.vm.findClass own = some m.cls) (hlink : (Cond.methodLink own index y).before args s = true) (hstat : (Cond.static y).before args s = true) (hinit : (Cond.initialized y.cls).before args s = true)
    (hcode : (Cond.code y bytes maxL ret).before args s = true) (hy : y.cls ≠ "java/lang/invoke/MethodHandle" ∧ y.cls ≠ "java/lang/invoke/VarHandle")
    {W9 : Nat} {Pre : Pt → Array Value → Prop} {Post : Pt → Array Value → Option Value → Pt → Prop} {PostX : Pt → Array Value → Addr → Pt → Prop} (hK : vx_Back l R p e below s args y 3 W9 Pre Post PostX)
    {g : JFrame} (hg : g.method = m) (hsize : g.locals.size = c.maxLocals) {argsL rest : List Value} (hlen : ∀ sig, parseMethodDescriptor y.desc = some sig → argsL.length = sig.parameters.length)
    (hstack : g.stack = argsL.reverse ++ rest) (hW : 2 * g.monitorRoom + (rest.map fun v => v.category).sum ≤ W9) (hdg : decode c.code g.pc = .ok (.invokestatic index, 3))
    (hpre : ∀ vm₁, s.WarmedH vm₁ → Pre ⟨T.setVm vm₁, locs, cells, slots⟩ argsL.toArray) :
    (∃ (v : Option Value) (vm₁ : Vm) (B : Pt), s.WarmedH vm₁ ∧ Stand p l e R s m args below meth c B.U B.locs B.cells B.slots ∧ Post ⟨T.setVm vm₁, locs, cells, slots⟩ argsL.toArray v B ∧
      ∀ target, Steps p.tables e below (B.U.setTop { g with pc := g.pc + 3, stack := v.toList ++ rest }) target → Steps p.tables e below (T.setTop g) target) ∨
    (∃ (q : Addr) (vm₁ : Vm) (B : Pt), s.WarmedH vm₁ ∧ Stand p l e R s m args below meth c B.U B.locs B.cells B.slots ∧ PostX ⟨T.setVm vm₁, locs, cells, slots⟩ argsL.toArray q B ∧
      Steps p.tables e below (T.setTop g) ((B.U.setTop { g with stack := rest }).pushFrame (.throwing q))) := by
  obtain ⟨mk, hnamed⟩ := Cond.code_named hcode
  obtain ⟨methM, cM, hmethM, -, -, -, -, -, -, hsigM⟩ := Cond.code_spec hnamed hcode
  have hstatic : methM.isStatic = true := Cond.static_spec hnamed hmethM hstat
  obtain ⟨kP, hkP, -⟩ := className_of_methodNamed hnamed
  have hinitP : kP.init = .initialized := Cond.initialized_spec (findClass_of_methodNamed hnamed) hkP hinit
  obtain ⟨vm₁, X₁, hstep₁⟩ := X.invokestatic hexec hown hlink hnamed hmethM hstatic hkP hinitP hy (g := g) hg (argsL := argsL) (rest := rest) (hlen _ hsigM) hstack hdg
  rcases hK m meth c ⟨T.setVm vm₁, locs, cells, slots⟩ { g with stack := rest } (.invokestatic index) mk argsL.toArray X₁ hg hsize hdg hW (X₁.named hnamed) (hpre vm₁ X₁.warmed) with ⟨v, B, X', hpost, hsteps⟩ | ⟨q, B, X', hpost, hsteps⟩
  · exact Or.inl ⟨v, vm₁, B, X₁.warmed, X', hpost, fun target h => hstep₁ _ fun acts => by rw [doInvoke_state]; exact hsteps.trans h⟩
  · exact Or.inr ⟨q, vm₁, B, X₁.warmed, X', hpost, hstep₁ _ fun acts => by rw [doInvoke_state]; exact hsteps⟩
end Calls
theorem vx_cls {s : State} {T : State} {vm₁ : Vm} {E : String} {k : ClassId} (hW : s.WarmedH vm₁) (h : (T.setVm vm₁).vm.findClass E = some k) : s.vm.findClass E = some k := by
  have h1 : vm₁.findClass E = some k := h
  rw [hW.alike.findClass] at h1
  exact h1
/-- the method's frame g, with q thrown over it -/
def vx_W (p : Program) (l : Launch) (e : Env) (R : Room) (s : State) (m : MethodId) (args : Array Value) (below : List Frame) (meth : Method) (c : Code) (H : Heap) (locs : List Loc) (cells slots : Nat) (Q : State → Prop) (g : JFrame) (q : Addr) : Prop :=
  ∀ T : State, T.heap = H → Stand p l e R s m args below meth c T locs cells slots → ∃ t, Steps p.tables e below ((T.setTop g).pushFrame (.throwing q)) t ∧ Q t
def vx_Run (p : Program) (l : Launch) (e : Env) (R : Room) (s : State) (m : MethodId) (args : Array Value) (below : List Frame) (meth : Method) (c : Code) (H : Heap) (locs : List Loc) (cells slots mc ms : Nat) (g : JFrame) (rest : List Value) (Qa : State → Outcome → State → Prop) (XC : String → State → State → Prop) (free : Addr → Prop) : Prop :=
  ∀ T : State, T.heap = H → Stand p l e R s m args below meth c T locs cells slots →
    (∃ (v : Option Value) (st₀ t T' : State) (L : List Loc), st₀.heap = H ∧ Stand p l e R s m args below meth c T' (locs ++ L) (cells + mc) (slots + ms) ∧ (∀ q ∈ L, free q.base) ∧ T'.heap = t.heap ∧ T'.vm = t.vm ∧ Qa st₀ (.returned v) t ∧
      Goes p e below T g T' { g with pc := g.pc + 3, stack := v.toList ++ rest }) ∨
    (∃ (q : Addr) (st₀ t T' : State) (L : List Loc) (E : String) (ce : Cell), st₀.heap = H ∧ Stand p l e R s m args below meth c T' (locs ++ L) (cells + mc) (slots + ms) ∧ (∀ z ∈ L, free z.base) ∧ T'.heap = t.heap ∧ T'.vm = t.vm ∧ XC E st₀ t ∧ t.heap[q]? = some ce ∧ ce.vm = .none ∧ s.vm.findClass E = some ce.cls ∧
      Steps p.tables e below (T.setTop g) ((T'.setTop { g with stack := rest }).pushFrame (.throwing q)))
def vx_X {S : Type} (px : S → Prop) (B : String → S → State → Prop) (A : Nat → Prop) : String → State → State → Prop := fun E st t => ∃ u : S, px u ∧ B E u t ∧ va_F A st t
section Runs
variable {p : Program} {l : Launch} {e : Env} {R : Room} {s : State} {m : MethodId} {args : Array Value} {below : List Frame} {meth : Method} {c : Code} {H : Heap} {locs : List Loc} {cells slots : Nat}
variable {y : MethodName} {bytes cc : ByteArray} {maxL nL mc ms n index : Nat} {ret : Option FieldType} {ws : List Cond} {rm : Room} {Pc : Array Value → State → Prop} {Qc : Array Value → State → Outcome → State → Prop} {XC : String → State → State → Prop} {free : Addr → Prop} {Ts : List Cond} {own C : String} {b : Addr} {As rest : List Value} {g : JFrame}
theorem vx_callBack (cb : CallB R s args own index y bytes maxL ret ws rm mc ms n) (hM : vx_Met l y ws rm Pc Qc XC mc ms free) (hbl : FrameBlind Pc) : vx_Back l R p e below s args y 3 8 (PreOf R mc ms Pc) (PostOf Qc mc ms free) (vx_Post XC mc ms free) := by
  obtain ⟨hrc, hrs, hfr, hlo, hws, hcw, -, hini, -⟩ := cb
  exact vx_back (bytes := bytes) (maxL := maxL) (ret := ret) hM hbl hrc hrs hfr hlo hws hcw (fun a' U hW => word_at hW (Or.inl (by first | rfl | simp [Cond.onTables, Cond.keeps, Cond.steady])) hini)
theorem vx_runV (S : CallFix p m c cc nL s args Ts own) (hM : vx_Met l y ws rm Pc Qc XC mc ms free) (cw : CallW R s args own C index y bytes maxL ret ws rm mc ms n) (hp : PreV s H C b Pc As)
    (hg : g.method = m) (hn : As.length = n) (hsize : g.locals.size = nL) (hstack : g.stack = As.reverse ++ .ref b :: rest) (hW : 2 * g.monitorRoom + (rest.map fun v => v.category).sum ≤ 8) (hdg : decode cc g.pc = .ok (.invokevirtual index, 3)) (hf : cells + mc ≤ R.cells ∧ slots + ms ≤ R.slots) :
    vx_Run p l e R s m args below meth c H locs cells slots mc ms g rest (Qc (Value.ref b :: As).toArray) XC free := by
  have hK : vx_Back l R p e below s args y 3 8 (PreOf R mc ms Pc) (PostOf Qc mc ms free) (vx_Post XC mc ms free) := vx_callBack cw.1 hM hp.1
  obtain ⟨⟨-, -, -, -, -, -, hcode, -, hy, hlen, hl⟩, hin, hse⟩ := cw
  obtain ⟨hx, hb, hml, ho, -⟩ := S
  obtain ⟨-, ⟨cellB, hcB, hoB, hclB⟩, hPc⟩ := hp
  intro T hT X
  rcases vx_callV X hx (C := C) (bytes := bytes) (maxL := maxL) (ret := ret) ho hl hin hse hcode hy hK (by rw [hT]; exact hcB) hoB hclB hg (hsize.trans hml.symm) (argsL := As) (rest := rest) (fun sig h => hn.trans (hlen sig h)) hstack hW (by rw [hb]; exact hdg)
    (fun vm₁ hW₁ => ⟨hf.1, hf.2, hPc (T.setVm vm₁) hT hW₁⟩) with ⟨v, vm₁, ⟨U', l2, c2, s2⟩, hW₁, X', ⟨g', mk, t, L, e1, e2, hq, h1, hL, h2, h3⟩, st⟩ | ⟨q, vm₁, ⟨U', l2, c2, s2⟩, hW₁, X', ⟨g', mk, t, L, E, ce, e1, e2, hq, hce, hcv, hcl, h1, hL, h2, h3⟩, st⟩
  · dsimp only [Pt.U, Pt.locs, Pt.cells, Pt.slots] at X' e1 e2 h1 h2 h3 st
    subst h1; subst h2; subst h3
    exact Or.inl ⟨v, (T.setVm vm₁).calling g' mk (Value.ref b :: As).toArray, t, U', L, hT, X', hL, e1, e2, hq, st⟩
  · dsimp only [Pt.U, Pt.locs, Pt.cells, Pt.slots] at X' e1 e2 h1 h2 h3 st hcl
    subst h1; subst h2; subst h3
    exact Or.inr ⟨q, (T.setVm vm₁).calling g' mk (Value.ref b :: As).toArray, t, U', L, E, ce, hT, X', hL, e1, e2, hq, hce, hcv, vx_cls hW₁ hcl, st⟩
theorem vx_runS (S : CallFix p m c cc nL s args Ts own) (hM : vx_Met l y ws rm Pc Qc XC mc ms free) (cw : CallB R s args own index y bytes maxL ret ws rm mc ms n ∧ (Cond.static y).before args s = true) (hp : PreS s H Pc As)
    (hg : g.method = m) (hn : As.length = n) (hsize : g.locals.size = nL) (hstack : g.stack = As.reverse ++ rest) (hW : 2 * g.monitorRoom + (rest.map fun v => v.category).sum ≤ 8) (hdg : decode cc g.pc = .ok (.invokestatic index, 3)) (hf : cells + mc ≤ R.cells ∧ slots + ms ≤ R.slots) :
    vx_Run p l e R s m args below meth c H locs cells slots mc ms g rest (Qc As.toArray) XC free := by
  have hK : vx_Back l R p e below s args y 3 8 (PreOf R mc ms Pc) (PostOf Qc mc ms free) (vx_Post XC mc ms free) := vx_callBack cw.1 hM hp.1
  obtain ⟨⟨-, -, -, -, -, -, hcode, hini, hy, hlen, hl⟩, hstt⟩ := cw
  obtain ⟨hx, hb, hml, ho, -⟩ := S
  intro T hT X
  rcases vx_callS X hx (bytes := bytes) (maxL := maxL) (ret := ret) ho hl hstt hini hcode hy hK hg (hsize.trans hml.symm) (argsL := As) (rest := rest) (fun sig h => hn.trans (hlen sig h)) hstack hW (by rw [hb]; exact hdg)
    (fun vm₁ hW₁ => ⟨hf.1, hf.2, hp.2 (T.setVm vm₁) hT hW₁⟩) with ⟨v, vm₁, ⟨U', l2, c2, s2⟩, hW₁, X', ⟨g', mk, t, L, e1, e2, hq, h1, hL, h2, h3⟩, st⟩ | ⟨q, vm₁, ⟨U', l2, c2, s2⟩, hW₁, X', ⟨g', mk, t, L, E, ce, e1, e2, hq, hce, hcv, hcl, h1, hL, h2, h3⟩, st⟩
  · dsimp only [Pt.U, Pt.locs, Pt.cells, Pt.slots] at X' e1 e2 h1 h2 h3 st
    subst h1; subst h2; subst h3
    exact Or.inl ⟨v, (T.setVm vm₁).calling g' mk As.toArray, t, U', L, hT, X', hL, e1, e2, hq, st⟩
  · dsimp only [Pt.U, Pt.locs, Pt.cells, Pt.slots] at X' e1 e2 h1 h2 h3 st hcl
    subst h1; subst h2; subst h3
    exact Or.inr ⟨q, (T.setVm vm₁).calling g' mk As.toArray, t, U', L, E, ce, hT, X', hL, e1, e2, hq, hce, hcv, vx_cls hW₁ hcl, st⟩
end Runs
section Rows
variable {p : Program} {l : Launch} {e : Env} {R : Room} {s : State} {m : MethodId} {args : Array Value} {below : List Frame} {meth : Method} {c : Code} {H : Heap} {locs : List Loc} {cells slots : Nat} {Q : State → Prop}
variable {mc ms : Nat} {free : Addr → Prop} {A0 A1 : Nat → Prop} {H0 : Heap} {a : Array Value} {pc : Nat} {ls : Array Slot} {st0 rest : List Value}
theorem vx_keep {st₀ t T' : State} {L : List Loc} (h0 : st₀.heap = H) (e1 : T'.heap = t.heap) (hS : va_S A0 H0 H locs) (hA : ∀ q, q < H.size → A1 q → A0 q) (hf : ∀ q, free q → A0 q) (hL : ∀ q ∈ L, free q.base) (hF : va_F A1 st₀ t) :
    H.size ≤ T'.heap.size ∧ (∀ q : Nat, q < H.size → ¬ A1 q → T'.heap[q]? = H[q]?) ∧ va_S A0 H0 T'.heap (locs ++ L) := by
  obtain ⟨hz, hk⟩ := hF
  rw [h0] at hz hk
  exact ⟨by rw [e1]; exact hz, fun q h1 h2 => by rw [e1]; exact hk q h1 h2,
    ⟨Nat.le_trans hS.1 (by rw [e1]; exact hz), fun q h1 h2 => by rw [e1, hk q (Nat.lt_of_lt_of_le h1 hS.1) (fun z => h2 (hA q (Nat.lt_of_lt_of_le h1 hS.1) z))]; exact hS.2.1 q h1 h2, fun q hq => by
      rcases List.mem_append.mp hq with h | h
      · exact hS.2.2 q h
      · exact hf _ (hL q h)⟩⟩
theorem vx_calli {S SX : Type} {post : Int32 → S → Prop} {px : SX → Prop} {B : S → State → Prop} {BX : String → SX → State → Prop} {AX : Nat → Prop} (hr : vx_Run p l e R s m args below meth c H locs cells slots mc ms (F0 m pc ls st0) rest (va_Qi post B A1 a) (vx_X px BX AX) free) (hS : va_S A0 H0 H locs) (hA : ∀ q, q < H.size → A1 q → A0 q) (hf : ∀ q, free q → A0 q) (hAX : ∀ q, q < H.size → AX q → A0 q)
    (kx : ∀ (E : String) (ce : Cell) (q9 : Addr) (u : SX) (t : State) (H1 : Heap) (locs1 : List Loc), t.heap = H1 → s.vm.Alike t.vm → px u → BX E u t → H.size ≤ H1.size → (∀ q : Nat, q < H.size → ¬ AX q → H1[q]? = H[q]?) → va_S A0 H0 H1 locs1 → H1[q9]? = some ce → ce.vm = .none → s.vm.findClass E = some ce.cls → vx_W p l e R s m args below meth c H1 locs1 (cells + mc) (slots + ms) Q (F0 m pc ls rest) q9)
    (kk : ∀ (r : Int32) (u : S) (t : State) (H1 : Heap) (locs1 : List Loc), t.heap = H1 → s.vm.Alike t.vm → post r u → B u t → H.size ≤ H1.size → (∀ q : Nat, q < H.size → ¬ A1 q → H1[q]? = H[q]?) → va_S A0 H0 H1 locs1 → W p l e R s m args below meth c H1 locs1 (cells + mc) (slots + ms) Q (F0 m (pc + 3) ls (.int r :: rest))) : W p l e R s m args below meth c H locs cells slots Q (F0 m pc ls st0) := by
  intro T hT X
  rcases hr T hT X with ⟨v, st₀, t, T', L, h0, X', hL, e1, e2, ⟨⟨r, u, hv, hp, hb⟩, hF⟩, st⟩ | ⟨q, st₀, t, T', L, E, ce, h0, X', hL, e1, e2, ⟨u, hp, hb, hF⟩, hce, hcv, hcl, st⟩
  · cases hv
    obtain ⟨k1, k2, k3⟩ := vx_keep h0 e1 hS hA hf hL hF
    obtain ⟨t2, a1, b1⟩ := kk r u t T'.heap (locs ++ L) e1.symm (by rw [← e2]; exact X'.warmed.alike) hp hb k1 k2 k3 T' rfl X'
    exact ⟨t2, st t2 a1, b1⟩
  · obtain ⟨k1, k2, k3⟩ := vx_keep h0 e1 hS hAX hf hL hF
    obtain ⟨t2, a1, b1⟩ := kx E ce q u t T'.heap (locs ++ L) e1.symm (by rw [← e2]; exact X'.warmed.alike) hp hb k1 k2 k3 (by rw [e1]; exact hce) hcv hcl T' rfl X'
    exact ⟨t2, st.trans a1, b1⟩
theorem vx_calll {S SX : Type} {post : Int64 → S → Prop} {px : SX → Prop} {B : S → State → Prop} {BX : String → SX → State → Prop} {AX : Nat → Prop} (hr : vx_Run p l e R s m args below meth c H locs cells slots mc ms (F0 m pc ls st0) rest (va_Ql post B A1 a) (vx_X px BX AX) free) (hS : va_S A0 H0 H locs) (hA : ∀ q, q < H.size → A1 q → A0 q) (hf : ∀ q, free q → A0 q) (hAX : ∀ q, q < H.size → AX q → A0 q)
    (kx : ∀ (E : String) (ce : Cell) (q9 : Addr) (u : SX) (t : State) (H1 : Heap) (locs1 : List Loc), t.heap = H1 → s.vm.Alike t.vm → px u → BX E u t → H.size ≤ H1.size → (∀ q : Nat, q < H.size → ¬ AX q → H1[q]? = H[q]?) → va_S A0 H0 H1 locs1 → H1[q9]? = some ce → ce.vm = .none → s.vm.findClass E = some ce.cls → vx_W p l e R s m args below meth c H1 locs1 (cells + mc) (slots + ms) Q (F0 m pc ls rest) q9)
    (kk : ∀ (r : Int64) (u : S) (t : State) (H1 : Heap) (locs1 : List Loc), t.heap = H1 → s.vm.Alike t.vm → post r u → B u t → H.size ≤ H1.size → (∀ q : Nat, q < H.size → ¬ A1 q → H1[q]? = H[q]?) → va_S A0 H0 H1 locs1 → W p l e R s m args below meth c H1 locs1 (cells + mc) (slots + ms) Q (F0 m (pc + 3) ls (.long r :: rest))) : W p l e R s m args below meth c H locs cells slots Q (F0 m pc ls st0) := by
  intro T hT X
  rcases hr T hT X with ⟨v, st₀, t, T', L, h0, X', hL, e1, e2, ⟨⟨r, u, hv, hp, hb⟩, hF⟩, st⟩ | ⟨q, st₀, t, T', L, E, ce, h0, X', hL, e1, e2, ⟨u, hp, hb, hF⟩, hce, hcv, hcl, st⟩
  · cases hv
    obtain ⟨k1, k2, k3⟩ := vx_keep h0 e1 hS hA hf hL hF
    obtain ⟨t2, a1, b1⟩ := kk r u t T'.heap (locs ++ L) e1.symm (by rw [← e2]; exact X'.warmed.alike) hp hb k1 k2 k3 T' rfl X'
    exact ⟨t2, st t2 a1, b1⟩
  · obtain ⟨k1, k2, k3⟩ := vx_keep h0 e1 hS hAX hf hL hF
    obtain ⟨t2, a1, b1⟩ := kx E ce q u t T'.heap (locs ++ L) e1.symm (by rw [← e2]; exact X'.warmed.alike) hp hb k1 k2 k3 (by rw [e1]; exact hce) hcv hcl T' rfl X'
    exact ⟨t2, st.trans a1, b1⟩
theorem vx_callf {S SX : Type} {post : UInt32 → S → Prop} {px : SX → Prop} {B : S → State → Prop} {BX : String → SX → State → Prop} {AX : Nat → Prop} (hr : vx_Run p l e R s m args below meth c H locs cells slots mc ms (F0 m pc ls st0) rest (va_Qf post B A1 a) (vx_X px BX AX) free) (hS : va_S A0 H0 H locs) (hA : ∀ q, q < H.size → A1 q → A0 q) (hf : ∀ q, free q → A0 q) (hAX : ∀ q, q < H.size → AX q → A0 q)
    (kx : ∀ (E : String) (ce : Cell) (q9 : Addr) (u : SX) (t : State) (H1 : Heap) (locs1 : List Loc), t.heap = H1 → s.vm.Alike t.vm → px u → BX E u t → H.size ≤ H1.size → (∀ q : Nat, q < H.size → ¬ AX q → H1[q]? = H[q]?) → va_S A0 H0 H1 locs1 → H1[q9]? = some ce → ce.vm = .none → s.vm.findClass E = some ce.cls → vx_W p l e R s m args below meth c H1 locs1 (cells + mc) (slots + ms) Q (F0 m pc ls rest) q9)
    (kk : ∀ (r : UInt32) (u : S) (t : State) (H1 : Heap) (locs1 : List Loc), t.heap = H1 → s.vm.Alike t.vm → post r u → B u t → H.size ≤ H1.size → (∀ q : Nat, q < H.size → ¬ A1 q → H1[q]? = H[q]?) → va_S A0 H0 H1 locs1 → W p l e R s m args below meth c H1 locs1 (cells + mc) (slots + ms) Q (F0 m (pc + 3) ls (.float r :: rest))) : W p l e R s m args below meth c H locs cells slots Q (F0 m pc ls st0) := by
  intro T hT X
  rcases hr T hT X with ⟨v, st₀, t, T', L, h0, X', hL, e1, e2, ⟨⟨r, u, hv, hp, hb⟩, hF⟩, st⟩ | ⟨q, st₀, t, T', L, E, ce, h0, X', hL, e1, e2, ⟨u, hp, hb, hF⟩, hce, hcv, hcl, st⟩
  · cases hv
    obtain ⟨k1, k2, k3⟩ := vx_keep h0 e1 hS hA hf hL hF
    obtain ⟨t2, a1, b1⟩ := kk r u t T'.heap (locs ++ L) e1.symm (by rw [← e2]; exact X'.warmed.alike) hp hb k1 k2 k3 T' rfl X'
    exact ⟨t2, st t2 a1, b1⟩
  · obtain ⟨k1, k2, k3⟩ := vx_keep h0 e1 hS hAX hf hL hF
    obtain ⟨t2, a1, b1⟩ := kx E ce q u t T'.heap (locs ++ L) e1.symm (by rw [← e2]; exact X'.warmed.alike) hp hb k1 k2 k3 (by rw [e1]; exact hce) hcv hcl T' rfl X'
    exact ⟨t2, st.trans a1, b1⟩
theorem vx_calld {S SX : Type} {post : UInt64 → S → Prop} {px : SX → Prop} {B : S → State → Prop} {BX : String → SX → State → Prop} {AX : Nat → Prop} (hr : vx_Run p l e R s m args below meth c H locs cells slots mc ms (F0 m pc ls st0) rest (va_Qd post B A1 a) (vx_X px BX AX) free) (hS : va_S A0 H0 H locs) (hA : ∀ q, q < H.size → A1 q → A0 q) (hf : ∀ q, free q → A0 q) (hAX : ∀ q, q < H.size → AX q → A0 q)
    (kx : ∀ (E : String) (ce : Cell) (q9 : Addr) (u : SX) (t : State) (H1 : Heap) (locs1 : List Loc), t.heap = H1 → s.vm.Alike t.vm → px u → BX E u t → H.size ≤ H1.size → (∀ q : Nat, q < H.size → ¬ AX q → H1[q]? = H[q]?) → va_S A0 H0 H1 locs1 → H1[q9]? = some ce → ce.vm = .none → s.vm.findClass E = some ce.cls → vx_W p l e R s m args below meth c H1 locs1 (cells + mc) (slots + ms) Q (F0 m pc ls rest) q9)
    (kk : ∀ (r : UInt64) (u : S) (t : State) (H1 : Heap) (locs1 : List Loc), t.heap = H1 → s.vm.Alike t.vm → post r u → B u t → H.size ≤ H1.size → (∀ q : Nat, q < H.size → ¬ A1 q → H1[q]? = H[q]?) → va_S A0 H0 H1 locs1 → W p l e R s m args below meth c H1 locs1 (cells + mc) (slots + ms) Q (F0 m (pc + 3) ls (.double r :: rest))) : W p l e R s m args below meth c H locs cells slots Q (F0 m pc ls st0) := by
  intro T hT X
  rcases hr T hT X with ⟨v, st₀, t, T', L, h0, X', hL, e1, e2, ⟨⟨r, u, hv, hp, hb⟩, hF⟩, st⟩ | ⟨q, st₀, t, T', L, E, ce, h0, X', hL, e1, e2, ⟨u, hp, hb, hF⟩, hce, hcv, hcl, st⟩
  · cases hv
    obtain ⟨k1, k2, k3⟩ := vx_keep h0 e1 hS hA hf hL hF
    obtain ⟨t2, a1, b1⟩ := kk r u t T'.heap (locs ++ L) e1.symm (by rw [← e2]; exact X'.warmed.alike) hp hb k1 k2 k3 T' rfl X'
    exact ⟨t2, st t2 a1, b1⟩
  · obtain ⟨k1, k2, k3⟩ := vx_keep h0 e1 hS hAX hf hL hF
    obtain ⟨t2, a1, b1⟩ := kx E ce q u t T'.heap (locs ++ L) e1.symm (by rw [← e2]; exact X'.warmed.alike) hp hb k1 k2 k3 (by rw [e1]; exact hce) hcv hcl T' rfl X'
    exact ⟨t2, st.trans a1, b1⟩
theorem vx_callv {S SX : Type} {post : S → Prop} {px : SX → Prop} {B : S → State → Prop} {BX : String → SX → State → Prop} {AX : Nat → Prop} (hr : vx_Run p l e R s m args below meth c H locs cells slots mc ms (F0 m pc ls st0) rest (va_Qv post B A1 a) (vx_X px BX AX) free) (hS : va_S A0 H0 H locs) (hA : ∀ q, q < H.size → A1 q → A0 q) (hf : ∀ q, free q → A0 q) (hAX : ∀ q, q < H.size → AX q → A0 q)
    (kx : ∀ (E : String) (ce : Cell) (q9 : Addr) (u : SX) (t : State) (H1 : Heap) (locs1 : List Loc), t.heap = H1 → s.vm.Alike t.vm → px u → BX E u t → H.size ≤ H1.size → (∀ q : Nat, q < H.size → ¬ AX q → H1[q]? = H[q]?) → va_S A0 H0 H1 locs1 → H1[q9]? = some ce → ce.vm = .none → s.vm.findClass E = some ce.cls → vx_W p l e R s m args below meth c H1 locs1 (cells + mc) (slots + ms) Q (F0 m pc ls rest) q9)
    (kk : ∀ (u : S) (t : State) (H1 : Heap) (locs1 : List Loc), t.heap = H1 → s.vm.Alike t.vm → post u → B u t → H.size ≤ H1.size → (∀ q : Nat, q < H.size → ¬ A1 q → H1[q]? = H[q]?) → va_S A0 H0 H1 locs1 → W p l e R s m args below meth c H1 locs1 (cells + mc) (slots + ms) Q (F0 m (pc + 3) ls (rest))) : W p l e R s m args below meth c H locs cells slots Q (F0 m pc ls st0) := by
  intro T hT X
  rcases hr T hT X with ⟨v, st₀, t, T', L, h0, X', hL, e1, e2, ⟨⟨u, hv, hp, hb⟩, hF⟩, st⟩ | ⟨q, st₀, t, T', L, E, ce, h0, X', hL, e1, e2, ⟨u, hp, hb, hF⟩, hce, hcv, hcl, st⟩
  · cases hv
    obtain ⟨k1, k2, k3⟩ := vx_keep h0 e1 hS hA hf hL hF
    obtain ⟨t2, a1, b1⟩ := kk u t T'.heap (locs ++ L) e1.symm (by rw [← e2]; exact X'.warmed.alike) hp hb k1 k2 k3 T' rfl X'
    exact ⟨t2, st t2 a1, b1⟩
  · obtain ⟨k1, k2, k3⟩ := vx_keep h0 e1 hS hAX hf hL hF
    obtain ⟨t2, a1, b1⟩ := kx E ce q u t T'.heap (locs ++ L) e1.symm (by rw [← e2]; exact X'.warmed.alike) hp hb k1 k2 k3 (by rw [e1]; exact hce) hcv hcl T' rfl X'
    exact ⟨t2, st.trans a1, b1⟩
end Rows
section Ends
variable {p : Program} {l : Launch} {e : Env} {R : Room} {s : State} {m : MethodId} {args : Array Value} {below : List Frame} {meth : Method} {c : Code} {H : Heap} {locs : List Loc} {cells slots : Nat} {Q : State → Prop}
variable {mc ms : Nat} {free : Addr → Prop} {A0 A1 : Nat → Prop} {H0 : Heap} {a : Array Value} {ls : Array Slot} {st0 rest : List Value}
variable {Qc : Array Value → State → Outcome → State → Prop} {XC : String → State → State → Prop}
/-- what a body that may throw owes at its end -/
def vx_MQ (below : List Frame) (Qc : Array Value → State → Outcome → State → Prop) (XC : String → State → State → Prop) (a : Array Value) (s : State) (mc ms : Nat) (free : Addr → Prop) : State → Prop := fun t =>
  ∃ o, t.status = .running ∧ Ended t below o ∧ vx_Q Qc XC mc ms free a s o t
theorem vx_ret {g : JFrame} {mc ms : Nat} (k : W p l e R s m args below meth c H locs cells slots (MQ below Qc args s mc ms free) g) : W p l e R s m args below meth c H locs cells slots (vx_MQ below Qc XC args s mc ms free) g := by
  intro T hT X
  obtain ⟨t, a1, o, b1, b2, b3, b4⟩ := k T hT X
  exact ⟨t, a1, o, b1, b2, Or.inl ⟨b3, b4⟩⟩
/-- not caught here: it goes on to the caller -/
theorem vx_widen {g : JFrame} {q : Addr} {k n : Nat} (h1 : cells ≤ k) (h2 : slots ≤ n) (kk : vx_W p l e R s m args below meth c H locs k n Q g q) : vx_W p l e R s m args below meth c H locs cells slots Q g q := fun T hT X => kk T hT (stand_widen X h1 h2)
theorem vx_out {pc : Nat} {E : String} {ce : Cell} {q : Addr} {mc ms : Nat} (hout : ∀ x ∈ c.exceptionTable.toList, covers x pc = false) (hlocks : meth.locks = false) (hcell : H[q]? = some ce) (hv : ce.vm = .none) (hcl : s.vm.findClass E = some ce.cls)
    (hx : ∀ t : State, t.heap = H → s.vm.Alike t.vm → XC E s t) (hf : ∀ z ∈ locs, free z.base) (hc : cells ≤ mc) (hs : slots ≤ ms) :
    vx_W p l e R s m args below meth c H locs cells slots (vx_MQ below Qc XC args s mc ms free) (F0 m pc ls rest) q := by
  intro T hT X
  obtain ⟨st1, hrun, hend, hW, hsm⟩ := X.leaveThrown q (g := F0 m pc ls rest) rfl rfl rfl hout hlocks
  have hcell9 : (T.setFrames (.throwing q :: below)).heap[q]? = some ce := by
    show T.heap[q]? = some ce
    rw [hT]; exact hcell
  exact ⟨_, st1, .threw q, hrun, hend, Or.inr ⟨q, rfl, E, ce, locs, hx _ hT hW.alike, hcell9, hv, hcl, hW, hsm.mono hc hs, hf⟩⟩
theorem vx_frame {U : State} {k n : Nat} (h : s.sameButNew ({ U with vm := s.vm } : State) locs k n) : s.heap.size ≤ U.heap.size ∧ ∀ q : Nat, q < s.heap.size → (∀ z ∈ locs, z.base ≠ q) → U.heap[q]? = s.heap[q]? := by
  obtain ⟨-, h2, -, -, -, h6⟩ := h
  refine ⟨h2, fun q hq hz => ?_⟩
  obtain ⟨c9, e1, e2, e3, e4⟩ := h6 q _ (Array.getElem?_eq_getElem hq)
  have hs : c9.slots = (s.heap[q]).slots := Array.ext_getElem? fun i => e4 i fun hm => hz _ hm rfl
  have h9 : c9 = s.heap[q] := by
    rw [hs] at e2
    exact e2
  have e5 : U.heap[q]? = some c9 := e1
  rw [e5, h9, Array.getElem?_eq_getElem hq]
/-- the words of a throw but the four that speak of the heap -/
def vx_no (w : Cond) : Bool := decide (w ≠ .isRef (.static Bundle.tN "UNASSIGNED_STACK" Bundle.steD)) && decide (w ≠ .isRef (.static Bundle.tN "SUPPRESSED_SENTINEL" Bundle.listD)) && decide (w ≠ .laysStatic Bundle.tN "UNASSIGNED_STACK" Bundle.steD) && decide (w ≠ .laysStatic Bundle.tN "SUPPRESSED_SENTINEL" Bundle.listD)
def vx_at0 (own : String) (ic : Nat) (X : String) (names : List String) : List Cond := (Bundle.ownAtoms0 own ic X names).filter vx_no
def vx_atS (own : String) (ic : Nat) (X : String) (names : List String) : List Cond := (Bundle.ownAtoms own ic X names).filter vx_no
/-- a word that the tables alone decide, or a good one -/
def vx_ot (w : Cond) : Bool := w.onTables || goodWord w
theorem vx_ot_at {args a' : Array Value} {s U : State} {w : Cond} (hW : s.WarmedH U.vm) (hvm : s.vm = U.vm) (hg : vx_ot w = true) (h : w.before args s = true) : w.before a' U = true := by
  simp only [vx_ot, Bool.or_eq_true] at hg
  rcases hg with hg | hg
  · exact va_tabs hg hvm h
  · exact word_at hW (good_of_word hg) h
/-- a list's words: the good ones out of the method's own list, the others by premises of their own -/
theorem vx_hat {args : Array Value} {s : State} {L B : List Cond} (h1 : ∀ w ∈ L.filter goodWord, w.before args s = true) (h2 : ∀ w ∈ L.filter (fun w => !goodWord w), w ∈ B) (h3 : ∀ w ∈ B, w.before args s = true) : ∀ w ∈ L, w.before args s = true := by
  intro w hw
  by_cases g : goodWord w = true
  · exact h1 w (List.mem_filter.mpr ⟨hw, g⟩)
  · refine h3 w (h2 w (List.mem_filter.mpr ⟨hw, ?_⟩))
    show (!goodWord w) = true
    cases hgw : goodWord w
    · rfl
    · exact absurd hgw g
theorem vx_c {args : Array Value} {s : State} {w : Cond} {B : List Cond} (h : w.before args s = true) (t : ∀ w ∈ B, w.before args s = true) : ∀ w' ∈ w :: B, w'.before args s = true := fun w' h' => (List.mem_cons.mp h').elim (fun e => by rw [e]; exact h) (t w')
theorem vx_n {args : Array Value} {s : State} : ∀ w ∈ ([] : List Cond), w.before args s = true := fun _ h => nomatch h
theorem vx_own {args : Array Value} {s : State} {L : List Cond} (h1 : ∀ w ∈ L.filter vx_no, w.before args s = true)
    (hU : (Cond.isRef (.static Bundle.tN "UNASSIGNED_STACK" Bundle.steD)).before args s = true) (hN : (Cond.isRef (.static Bundle.tN "SUPPRESSED_SENTINEL" Bundle.listD)).before args s = true)
    (lU : (Cond.laysStatic Bundle.tN "UNASSIGNED_STACK" Bundle.steD).before args s = true) (lN : (Cond.laysStatic Bundle.tN "SUPPRESSED_SENTINEL" Bundle.listD).before args s = true) : ∀ w ∈ L, w.before args s = true := by
  intro w hw
  by_cases e1 : w = .isRef (.static Bundle.tN "UNASSIGNED_STACK" Bundle.steD)
  · rw [e1]; exact hU
  · by_cases e2 : w = .isRef (.static Bundle.tN "SUPPRESSED_SENTINEL" Bundle.listD)
    · rw [e2]; exact hN
    · by_cases e3 : w = .laysStatic Bundle.tN "UNASSIGNED_STACK" Bundle.steD
      · rw [e3]; exact lU
      · by_cases e4 : w = .laysStatic Bundle.tN "SUPPRESSED_SENTINEL" Bundle.listD
        · rw [e4]; exact lN
        · exact h1 w (List.mem_filter.mpr ⟨hw, by unfold vx_no; rw [decide_eq_true e1, decide_eq_true e2, decide_eq_true e3, decide_eq_true e4]; rfl⟩)
/-- where a static field lies, its class's statics cell in H -/
def vx_L (C n d : String) (A : Nat → Prop) (U : State) (H : Heap) : Prop := ∃ (c : ClassId) (k : Class) (i : Nat) (f : Field) (a : Nat) (cell : Cell), U.vm.findClass C = some c ∧ U.fieldFound? C n d = some (c, k, i, f) ∧ f.isStatic = true ∧ k.statics = some a ∧ H[a]? = some cell ∧ cell.vm.isStatics = true ∧ cell.cls = c ∧ f.slot < cell.slots.size ∧ k.staticTypes[f.slot]? = some f.type ∧ ¬ A a
theorem vx_L.moved {C n d : String} {A : Nat → Prop} {u U : State} {H : Heap} (hvm : u.vm.Alike U.vm) (h : vx_L C n d A u H) : vx_L C n d A U H := by
  obtain ⟨c, k, i, f, a, cell, h1, h2, h3, h4, h5, h6, h7, h8, h9, h10⟩ := h
  obtain ⟨k', hi', he⟩ := State.fieldFound?_setVm hvm h2
  exact ⟨c, k', i, f, a, cell, by rw [hvm.findClass]; exact h1, hi', h3, by rw [he]; exact h4, h5, h6, h7, h8, by rw [he]; exact h9, h10⟩
theorem vx_L.kept {C n d : String} {A : Nat → Prop} {U : State} {H H1 : Heap} (h : vx_L C n d A U H) (hq : ∀ a : Nat, a < H.size → ¬ A a → H1[a]? = H[a]?) : vx_L C n d A U H1 := by
  obtain ⟨c, k, i, f, a, cell, h1, h2, h3, h4, h5, h6, h7, h8, h9, h10⟩ := h
  exact ⟨c, k, i, f, a, cell, h1, h2, h3, h4, by rw [hq a (Array.getElem?_eq_some_iff.mp h5).1 h10]; exact h5, h6, h7, h8, h9, h10⟩
theorem vx_L.narrow {C n d : String} {A B : Nat → Prop} {U : State} {H : Heap} (h : vx_L C n d A U H) (hAB : ∀ q, B q → A q) : vx_L C n d B U H := by
  obtain ⟨c, k, i, f, a, cell, h1, h2, h3, h4, h5, h6, h7, h8, h9, h10⟩ := h
  exact ⟨c, k, i, f, a, cell, h1, h2, h3, h4, h5, h6, h7, h8, h9, fun z => h10 (hAB _ z)⟩
theorem vx_L.word {C n d : String} {A : Nat → Prop} {s : State} {args : Array Value} (h : vx_L C n d A s s.heap) : (Cond.laysStatic C n d).before args s = true := by
  obtain ⟨c, k, i, f, a, cell, h1, h2, h3, h4, h5, h6, h7, h8, h9, -⟩ := h
  show (Cond.laysStatic C n d).holds args s none s [] = true
  exact Cond.laysStatic_of h1 h2 h3 h4 h5 h6 h7 h8 h9
/-- .. and what it holds: null or some reference -/
def vx_Zq (C n d : String) (A : Nat → Prop) (U : State) (H : Heap) : Prop := va_Zq C n d A U H ∧ vx_L C n d A U H
theorem vx_Zq.moved {C n d : String} {A : Nat → Prop} {u U : State} {H : Heap} (hvm : u.vm.Alike U.vm) (h : vx_Zq C n d A u H) : vx_Zq C n d A U H := ⟨va_Zq.moved hvm h.1, vx_L.moved hvm h.2⟩
theorem vx_Zq.kept {C n d : String} {A : Nat → Prop} {U : State} {H H1 : Heap} (h : vx_Zq C n d A U H) (hq : ∀ a : Nat, a < H.size → ¬ A a → H1[a]? = H[a]?) : vx_Zq C n d A U H1 := ⟨va_Zq.kept h.1 hq, vx_L.kept h.2 hq⟩
theorem vx_Zq.narrow {C n d : String} {A B : Nat → Prop} {U : State} {H : Heap} (h : vx_Zq C n d A U H) (hAB : ∀ q, B q → A q) : vx_Zq C n d B U H := ⟨va_Zq.narrow h.1 hAB, vx_L.narrow h.2 hAB⟩
theorem vx_Zqof {args : Array Value} {s : State} {C n d : String} {A : Nat → Prop} (hl : (Cond.laysStatic C n d).before args s = true) (hini : (Cond.initialized C).before args s = true) (h : (Cond.isRef (.static C n d)).before args s = true) (hA : ∀ a : Nat, a < s.heap.size → ¬ A a) : vx_Zq C n d A s s.heap := by
  refine ⟨va_Zqof hl hini h hA, ?_⟩
  obtain ⟨c, k, i, f, a, cell, h1, h2, h3, h4, h5, h6, h7, h8, h9⟩ := Cond.laysStatic_spec hl
  exact ⟨c, k, i, f, a, cell, h1, h2, h3, h4, h5, h6, h7, h8, h9, hA a (Array.getElem?_eq_some_iff.mp h5).1⟩
theorem vx_isRef {C n d : String} {v : Value} {A : Nat → Prop} {s : State} {args : Array Value} (h : va_Z C n d v A s s.heap) (hv : v.isRef = true) : (Cond.isRef (.static C n d)).before args s = true := by
  obtain ⟨cf, kf, fi, f, a, cell, h1, h2, h3, h4, h5, h6, h7, -⟩ := h
  have he : (Term.static C n d).eval args s none [] s = some v := by
    simp [Term.eval, State.fieldNamed?, h1, h2, h4, h5, h6, h7]
  simp only [Cond.before, Cond.holds, Cond.value, he]
  cases v <;> simp_all [Value.isRef]
theorem vx_isRefq {C n d : String} {A : Nat → Prop} {s : State} {args : Array Value} (h : va_Zq C n d A s s.heap) : (Cond.isRef (.static C n d)).before args s = true := by
  rcases h with h | ⟨t, h⟩
  · exact vx_isRef h rfl
  · exact vx_isRef h rfl
/-- the same frame, seen from here: as if the method were called anew in this heap -/
theorem vx_rebase {T : State} (X : Stand p l e R s m args below meth c T locs cells slots) {R' : Room} (hf : R'.frames ≤ R.frames) (hl : R'.locals ≤ R.locals) (hc : cells + R'.cells ≤ R.cells) (hs : slots + R'.slots ≤ R.slots) :
    Stand p l e R' ((T.setVm s.vm).setFrames (.invoking m args :: below)) m args below meth c T [] 0 0 := by
  have htop : (T.setVm s.vm).topJava?.isSome := X.here.top
  have hF : ((T.setVm s.vm).setFrames (.invoking m args :: below)).frames = .invoking m args :: below := State.frames_setFrames _ (State.cur_lt_of_top htop)
  obtain ⟨g₀, hg0⟩ := Option.isSome_iff_exists.mp htop
  obtain ⟨r, hr⟩ := State.topJava?_eq_some.mp hg0
  have hl9 : e.platform.stackLimits (T.setVm s.vm).me = e.platform.stackLimits s.me := X.limits
  have hb9 : (T.setVm s.vm).me.stackBytes = s.me.stackBytes := X.bytes
  refine ⟨X.admits, X.cas, X.clock, hF, ?_, X.hears, X.method, X.code, X.here, X.tail, X.warmed, ?_, ?_, ?_⟩
  · have h := X.room
    have hU : ((T.setVm s.vm).setFrames (.invoking m args :: below)).localsInUse = s.localsInUse := by
      rw [State.localsInUse_invoking hF (meth := meth) (c := c) X.method X.code, State.localsInUse_invoking X.frames X.method X.code]
    simp only [State.hasRoom, Bool.and_eq_true, decide_eq_true_eq] at h ⊢
    obtain ⟨⟨⟨⟨h1, h2, h3, h4, h5, h6⟩, h7⟩, h8⟩, h9⟩ := h
    rw [X.frames, List.length_cons] at h2 h3
    have q1 := X.heapSize
    have q2 := X.used
    simp only [hF, hU, List.length_cons, State.stackLimits_setFrames, State.stackBytes_setFrames, hl9, hb9]
    refine ⟨⟨⟨⟨by omega, by omega, by omega, by omega, by omega, h6⟩, ?_⟩, ?_⟩, X.book⟩
    · show T.heap.size + R'.cells ≤ e.platform.maxCells
      omega
    · show T.slotsUsed + R'.slots ≤ e.platform.maxSlots
      omega
  · rw [State.stackLimits_setFrames]; rfl
  · rw [State.stackBytes_setFrames]; rfl
  · refine ⟨?_, Nat.le_refl _, Nat.le_refl _, ?_, ?_, fun a c9 h9 => ⟨c9, h9, rfl, rfl, fun _ _ => rfl⟩⟩
    · obtain ⟨t, ht, -⟩ := State.frames_cons hr
      show T.setVm s.vm = { ((T.setVm s.vm).setFrames (.invoking m args :: below)).setFrames (T.setVm s.vm).frames with heap := T.heap, slotsUsed := T.slotsUsed }
      rw [State.setFrames_setFrames, State.setFrames_self ht]
      rfl
    · show T.slotsUsed = T.slotsUsed + ((T.heap.toList.drop T.heap.size).map (·.slots.size)).sum
      rw [List.drop_eq_nil_of_le (Nat.le_of_eq Array.length_toList)]
      rfl
    · show ((T.heap.toList.drop T.heap.size).map (·.slots.size)).sum ≤ 0
      rw [List.drop_eq_nil_of_le (Nat.le_of_eq Array.length_toList)]
      exact Nat.le_refl _
/-- 'throw new E()': new; dup; invokespecial; athrow -/
theorem vx_throw0 {cc : ByteArray} {pc : Nat} (hexec : p.tables.exec = Jvm.exec) (hb : c.code = cc) (hl : l.stackTraces = false) {own cls : String} {names : List String} {ik ic mc ms : Nat} {A : Nat → Prop}
    (hown : s.vm.findClass own = some m.cls) (hcls : Bundle.fit cls = true) (hnames : ∀ n ∈ names, Bundle.fit n = true)
    (hk : (Cond.classLink own ik cls).before args s = true) (hini : (Cond.initialized cls).before args s = true) (hat : ∀ w ∈ vx_at0 own ic cls names, w.before args s = true)
    (hgood : ∀ w ∈ Cond.classLink own ik cls :: Cond.initialized cls :: vx_at0 own ic cls names, vx_ot w = true)
    (hU : vx_Zq Bundle.tN "UNASSIGNED_STACK" Bundle.steD A s s.heap) (hN : vx_Zq Bundle.tN "SUPPRESSED_SENTINEL" Bundle.listD A s s.heap) (hS : va_S A s.heap H locs) (hsize : ls.size = c.maxLocals)
    (d0 : decode cc pc = .ok (.new ik, 3)) (d3 : decode cc (pc + 3) = .ok (.dup, 1)) (d4 : decode cc (pc + 4) = .ok (.invokespecial ic, 3)) (d7 : decode cc (pc + 7) = .ok (.athrow, 1))
    (hout : ∀ x ∈ c.exceptionTable.toList, covers x (pc + 7) = false)
    (hRframes : names.length + 3 < R.frames) (hRlocals : (rest.map fun v => v.category).sum + (13 * (names.length + 1) + 42) ≤ R.locals) (hRcells : cells + 1 ≤ R.cells) (hRslots : slots + 6 ≤ R.slots) (hlocks : meth.locks = false)
    (hx : ∀ t : State, s.vm.Alike t.vm → H.size ≤ t.heap.size → (∀ q : Nat, q < H.size → t.heap[q]? = H[q]?) → XC cls s t)
    (hf : ∀ z ∈ locs, free z.base) (hc : cells + 1 ≤ mc) (hs : slots + 6 ≤ ms) :
    W p l e R s m args below meth c H locs cells slots (vx_MQ below Qc XC args s mc ms free) (F0 m pc ls rest) := by
  intro T hT X
  have htr : e.platform.stackTraces = false := (show e.platform.stackTraces = l.stackTraces by rw [X.admits.platform]).trans hl
  have Y := vx_rebase X (R' := { frames := R.frames, locals := R.locals, cells := 1, slots := 6 }) (Nat.le_refl _) (Nat.le_refl _) hRcells hRslots
  obtain ⟨s', hA⟩ : ∃ z, z = (T.setVm s.vm).setFrames (.invoking m args :: below) := ⟨_, rfl⟩
  rw [← hA] at Y
  have hvm : s'.vm = s.vm := by rw [hA]; rfl
  have hhp : s'.heap = H := by rw [hA]; exact hT
  have hW0 : s.WarmedH s'.vm := by rw [hvm]; exact State.WarmedH.refl s
  have hat' : ∀ w ∈ vx_at0 own ic cls names, w.before args s' = true := fun w hw => vx_ot_at hW0 hvm.symm (hgood w (List.mem_cons_of_mem _ (List.mem_cons_of_mem _ hw))) (hat w hw)
  have hk' : (Cond.classLink own ik cls).before args s' = true := vx_ot_at hW0 hvm.symm (hgood _ List.mem_cons_self) hk
  have hini' : (Cond.initialized cls).before args s' = true := vx_ot_at hW0 hvm.symm (hgood _ (List.mem_cons_of_mem _ List.mem_cons_self)) hini
  have hU' : vx_Zq Bundle.tN "UNASSIGNED_STACK" Bundle.steD A s' s'.heap := by rw [hhp]; exact vx_Zq.moved hW0.alike (hU.kept hS.2.1)
  have hN' : vx_Zq Bundle.tN "SUPPRESSED_SENTINEL" Bundle.listD A s' s'.heap := by rw [hhp]; exact vx_Zq.moved hW0.alike (hN.kept hS.2.1)
  have h : ∀ w ∈ Bundle.ownAtoms0 own ic cls names, w.before args s' = true := vx_own hat' (vx_isRefq hU'.1) (vx_isRefq hN'.1) hU'.2.word hN'.2.word
  have hown' : s'.vm.findClass own = some m.cls := by rw [hvm]; exact hown
  have hins : (Cond.instantiable cls 6).before args s' = true := h _ (by simp [Bundle.ownAtoms0])
  obtain ⟨vm₁, cX, kX, hfX, hkX, -, -, X₁, st1⟩ := Y.newCold hexec (own := own) (C := cls) (index := ik) (n := 6) hown' hk' hins hini'
    (g := F0 m pc ls rest) rfl (by rw [hb]; exact d0) (Nat.le_refl _) (Nat.le_refl _)
  generalize hT1 : (T.setVm vm₁).pushCell { cls := cX, slots := kX.instanceTypes.map defaultValue, vm := .none } = T1 at X₁ st1
  have hcat : (Value.ref T.heap.size).category = 1 := rfl
  have hcellA : T1.heap[T.heap.size]? = some (freshCell cX kX) := by rw [← hT1]; exact State.heap_pushCell_size _ _
  have d3' : decode c.code (pc + 3) = .ok (.dup, 1) := by rw [hb]; exact d3
  obtain ⟨U, hsteps, hrun, hend, hW, hsame, ce, hce, hO⟩ := X₁.ctorThrow0 hexec htr (own := own) (cls := cls) (names := names) (ic := ic) hown' hcls hnames h (fun x hx => nomatch hx) hfX hkX hcellA (by rw [hhp, hT]; exact Nat.le_refl _)
    (g := { method := m, pc := pc + 4, locals := ls, stack := .ref T.heap.size :: .ref T.heap.size :: rest, locked := none }) rfl hsize rfl rfl (rest := rest) rfl
    (by rw [hb]; exact d4) (by rw [hb]; exact d7) hout hRframes (by simp only [List.map_cons, List.sum_cons, hcat]; omega) hlocks
  obtain ⟨f1, f2⟩ := vx_frame hsame
  rw [hhp] at f1 f2
  have hWs : s.WarmedH U.vm := State.WarmedH.trans hW0 hW
  have hcl : s.vm.findClass cls = some ce.cls := by
    have h9 := hO.cls
    rw [hvm] at h9
    exact h9
  have hall : s.sameButNew ({ U with vm := s.vm } : State) locs mc ms := by
    subst hA
    obtain ⟨e1, e2⟩ := hsame
    rw [State.setFrames_setFrames] at e1
    have h2 : (T.setVm s.vm).sameButNew ({ U with vm := s.vm } : State) [] (0 + 1) (0 + 6) := ⟨e1, e2⟩
    have h3 := X.same.trans h2
    rw [List.append_nil] at h3
    exact h3.mono hc hs
  refine ⟨U, ?_, .threw T.heap.size, hrun, hend, Or.inr ⟨T.heap.size, rfl, cls, ce, locs, hx U hWs.alike f1 (fun q hq => f2 q hq (fun z hz => nomatch hz)), hce, hO.vm, hcl, hWs, hall, hf⟩⟩
  refine st1 _ ?_
  show Steps p.tables e below (T1.setTop { method := m, pc := pc + 3, locals := ls, stack := .ref T.heap.size :: rest, locked := none }) _
  jvm_step X₁.here [X₁.here.top, hexec, d3', Value.category]
  exact hsteps
/-- 'throw new E("text")': new; dup; ldc; invokespecial; athrow -/
theorem vx_throwS {cc : ByteArray} {pc : Nat} (hexec : p.tables.exec = Jvm.exec) (hb : c.code = cc) (hl : l.stackTraces = false) {own cls text : String} {names : List String} {ik is ic mc ms sa : Nat} {A : Nat → Prop}
    (hown : s.vm.findClass own = some m.cls) (hcls : Bundle.fit cls = true) (hnames : ∀ n ∈ names, Bundle.fit n = true)
    (hk : (Cond.classLink own ik cls).before args s = true) (hini : (Cond.initialized cls).before args s = true) (hstr : vk_R own is text sa s) (hat : ∀ w ∈ vx_atS own ic cls names, w.before args s = true)
    (hgood : ∀ w ∈ Cond.classLink own ik cls :: Cond.initialized cls :: vx_atS own ic cls names, vx_ot w = true)
    (hU : vx_Zq Bundle.tN "UNASSIGNED_STACK" Bundle.steD A s s.heap) (hN : vx_Zq Bundle.tN "SUPPRESSED_SENTINEL" Bundle.listD A s s.heap) (hS : va_S A s.heap H locs) (hsize : ls.size = c.maxLocals)
    (d0 : decode cc pc = .ok (.new ik, 3)) (d3 : decode cc (pc + 3) = .ok (.dup, 1)) (d4 : decode cc (pc + 4) = .ok (.ldc is, 2)) (d6 : decode cc (pc + 6) = .ok (.invokespecial ic, 3)) (d9 : decode cc (pc + 9) = .ok (.athrow, 1))
    (hout : ∀ x ∈ c.exceptionTable.toList, covers x (pc + 9) = false)
    (hRframes : names.length + 3 < R.frames) (hRlocals : (rest.map fun v => v.category).sum + (13 * (names.length + 1) + 43) ≤ R.locals) (hRcells : cells + 1 ≤ R.cells) (hRslots : slots + 6 ≤ R.slots) (hlocks : meth.locks = false)
    (hx : ∀ t : State, s.vm.Alike t.vm → H.size ≤ t.heap.size → (∀ q : Nat, q < H.size → t.heap[q]? = H[q]?) → XC cls s t)
    (hf : ∀ z ∈ locs, free z.base) (hc : cells + 1 ≤ mc) (hs : slots + 6 ≤ ms) :
    W p l e R s m args below meth c H locs cells slots (vx_MQ below Qc XC args s mc ms free) (F0 m pc ls rest) := by
  intro T hT X
  have htr : e.platform.stackTraces = false := (show e.platform.stackTraces = l.stackTraces by rw [X.admits.platform]).trans hl
  have Y := vx_rebase X (R' := { frames := R.frames, locals := R.locals, cells := 1, slots := 6 }) (Nat.le_refl _) (Nat.le_refl _) hRcells hRslots
  obtain ⟨s', hA⟩ : ∃ z, z = (T.setVm s.vm).setFrames (.invoking m args :: below) := ⟨_, rfl⟩
  rw [← hA] at Y
  have hvm : s'.vm = s.vm := by rw [hA]; rfl
  have hhp : s'.heap = H := by rw [hA]; exact hT
  have hW0 : s.WarmedH s'.vm := by rw [hvm]; exact State.WarmedH.refl s
  have hat' : ∀ w ∈ vx_atS own ic cls names, w.before args s' = true := fun w hw => vx_ot_at hW0 hvm.symm (hgood w (List.mem_cons_of_mem _ (List.mem_cons_of_mem _ hw))) (hat w hw)
  have hk' : (Cond.classLink own ik cls).before args s' = true := vx_ot_at hW0 hvm.symm (hgood _ List.mem_cons_self) hk
  have hini' : (Cond.initialized cls).before args s' = true := vx_ot_at hW0 hvm.symm (hgood _ (List.mem_cons_of_mem _ List.mem_cons_self)) hini
  have hU' : vx_Zq Bundle.tN "UNASSIGNED_STACK" Bundle.steD A s' s'.heap := by rw [hhp]; exact vx_Zq.moved hW0.alike (hU.kept hS.2.1)
  have hN' : vx_Zq Bundle.tN "SUPPRESSED_SENTINEL" Bundle.listD A s' s'.heap := by rw [hhp]; exact vx_Zq.moved hW0.alike (hN.kept hS.2.1)
  have h : ∀ w ∈ Bundle.ownAtoms own ic cls names, w.before args s' = true := vx_own hat' (vx_isRefq hU'.1) (vx_isRefq hN'.1) hU'.2.word hN'.2.word
  have hown' : s'.vm.findClass own = some m.cls := by rw [hvm]; exact hown
  have hins : (Cond.instantiable cls 6).before args s' = true := h _ (by simp [Bundle.ownAtoms])
  obtain ⟨vm₁, cX, kX, hfX, hkX, -, -, X₁, st1⟩ := Y.newCold hexec (own := own) (C := cls) (index := ik) (n := 6) hown' hk' hins hini'
    (g := F0 m pc ls rest) rfl (by rw [hb]; exact d0) (Nat.le_refl _) (Nat.le_refl _)
  generalize hT1 : (T.setVm vm₁).pushCell { cls := cX, slots := kX.instanceTypes.map defaultValue, vm := .none } = T1 at X₁ st1
  have hcat : (Value.ref T.heap.size).category = 1 := rfl
  have hcellA : T1.heap[T.heap.size]? = some (freshCell cX kX) := by rw [← hT1]; exact State.heap_pushCell_size _ _
  have d3' : decode c.code (pc + 3) = .ok (.dup, 1) := by rw [hb]; exact d3
  have d4' : decode c.code (pc + 4) = .ok (.ldc is, 2) := by rw [hb]; exact d4
  have hstr' : vk_R own is text sa s' := vk_R.warm hW0 hstr
  obtain ⟨U, hsteps, hrun, hend, hW, hsame, ce, hce, hO⟩ := X₁.ctorThrowS hexec htr (own := own) (cls := cls) (names := names) (ic := ic) hown' hcls hnames h (fun x hx => nomatch hx) hfX hkX hcellA (by rw [hhp, hT]; exact Nat.le_refl _) (msg := .ref sa) rfl
    (g := { method := m, pc := pc + 6, locals := ls, stack := .ref sa :: .ref T.heap.size :: .ref T.heap.size :: rest, locked := none }) rfl hsize rfl rfl (rest := rest) rfl
    (by rw [hb]; exact d6) (by rw [hb]; exact d9) hout hRframes (by simp only [List.map_cons, List.sum_cons, hcat]; omega) hlocks
  obtain ⟨f1, f2⟩ := vx_frame hsame
  rw [hhp] at f1 f2
  have hWs : s.WarmedH U.vm := State.WarmedH.trans hW0 hW
  have hcl : s.vm.findClass cls = some ce.cls := by
    have h9 := hO.cls
    rw [hvm] at h9
    exact h9
  have hall : s.sameButNew ({ U with vm := s.vm } : State) locs mc ms := by
    subst hA
    obtain ⟨e1, e2⟩ := hsame
    rw [State.setFrames_setFrames] at e1
    have h2 : (T.setVm s.vm).sameButNew ({ U with vm := s.vm } : State) [] (0 + 1) (0 + 6) := ⟨e1, e2⟩
    have h3 := X.same.trans h2
    rw [List.append_nil] at h3
    exact h3.mono hc hs
  refine ⟨U, ?_, .threw T.heap.size, hrun, hend, Or.inr ⟨T.heap.size, rfl, cls, ce, locs, hx U hWs.alike f1 (fun q hq => f2 q hq (fun z hz => nomatch hz)), hce, hO.vm, hcl, hWs, hall, hf⟩⟩
  refine st1 _ ?_
  show Steps p.tables e below (T1.setTop { method := m, pc := pc + 3, locals := ls, stack := .ref T.heap.size :: rest, locked := none }) _
  jvm_step X₁.here [X₁.here.top, hexec, d3', Value.category]
  exact X₁.ldcString hexec (own := own) (text := text) (index := is) (a := sa) hown' hstr'.1 hstr'.2
    (g := { method := m, pc := pc + 4, locals := ls, stack := .ref T.heap.size :: .ref T.heap.size :: rest, locked := none }) rfl d4' _ hsteps
/-- 'throw new E("text")', the text by a wide index -/
theorem vx_throwSW {cc : ByteArray} {pc : Nat} (hexec : p.tables.exec = Jvm.exec) (hb : c.code = cc) (hl : l.stackTraces = false) {own cls text : String} {names : List String} {ik is ic mc ms sa : Nat} {A : Nat → Prop}
    (hown : s.vm.findClass own = some m.cls) (hcls : Bundle.fit cls = true) (hnames : ∀ n ∈ names, Bundle.fit n = true)
    (hk : (Cond.classLink own ik cls).before args s = true) (hini : (Cond.initialized cls).before args s = true) (hstr : vk_R own is text sa s) (hat : ∀ w ∈ vx_atS own ic cls names, w.before args s = true)
    (hgood : ∀ w ∈ Cond.classLink own ik cls :: Cond.initialized cls :: vx_atS own ic cls names, vx_ot w = true)
    (hU : vx_Zq Bundle.tN "UNASSIGNED_STACK" Bundle.steD A s s.heap) (hN : vx_Zq Bundle.tN "SUPPRESSED_SENTINEL" Bundle.listD A s s.heap) (hS : va_S A s.heap H locs) (hsize : ls.size = c.maxLocals)
    (d0 : decode cc pc = .ok (.new ik, 3)) (d3 : decode cc (pc + 3) = .ok (.dup, 1)) (d4 : decode cc (pc + 4) = .ok (.ldc_w is, 3)) (d7 : decode cc (pc + 7) = .ok (.invokespecial ic, 3)) (d10 : decode cc (pc + 10) = .ok (.athrow, 1))
    (hout : ∀ x ∈ c.exceptionTable.toList, covers x (pc + 10) = false)
    (hRframes : names.length + 3 < R.frames) (hRlocals : (rest.map fun v => v.category).sum + (13 * (names.length + 1) + 43) ≤ R.locals) (hRcells : cells + 1 ≤ R.cells) (hRslots : slots + 6 ≤ R.slots) (hlocks : meth.locks = false)
    (hx : ∀ t : State, s.vm.Alike t.vm → H.size ≤ t.heap.size → (∀ q : Nat, q < H.size → t.heap[q]? = H[q]?) → XC cls s t)
    (hf : ∀ z ∈ locs, free z.base) (hc : cells + 1 ≤ mc) (hs : slots + 6 ≤ ms) :
    W p l e R s m args below meth c H locs cells slots (vx_MQ below Qc XC args s mc ms free) (F0 m pc ls rest) := by
  intro T hT X
  have htr : e.platform.stackTraces = false := (show e.platform.stackTraces = l.stackTraces by rw [X.admits.platform]).trans hl
  have Y := vx_rebase X (R' := { frames := R.frames, locals := R.locals, cells := 1, slots := 6 }) (Nat.le_refl _) (Nat.le_refl _) hRcells hRslots
  obtain ⟨s', hA⟩ : ∃ z, z = (T.setVm s.vm).setFrames (.invoking m args :: below) := ⟨_, rfl⟩
  rw [← hA] at Y
  have hvm : s'.vm = s.vm := by rw [hA]; rfl
  have hhp : s'.heap = H := by rw [hA]; exact hT
  have hW0 : s.WarmedH s'.vm := by rw [hvm]; exact State.WarmedH.refl s
  have hat' : ∀ w ∈ vx_atS own ic cls names, w.before args s' = true := fun w hw => vx_ot_at hW0 hvm.symm (hgood w (List.mem_cons_of_mem _ (List.mem_cons_of_mem _ hw))) (hat w hw)
  have hk' : (Cond.classLink own ik cls).before args s' = true := vx_ot_at hW0 hvm.symm (hgood _ List.mem_cons_self) hk
  have hini' : (Cond.initialized cls).before args s' = true := vx_ot_at hW0 hvm.symm (hgood _ (List.mem_cons_of_mem _ List.mem_cons_self)) hini
  have hU' : vx_Zq Bundle.tN "UNASSIGNED_STACK" Bundle.steD A s' s'.heap := by rw [hhp]; exact vx_Zq.moved hW0.alike (hU.kept hS.2.1)
  have hN' : vx_Zq Bundle.tN "SUPPRESSED_SENTINEL" Bundle.listD A s' s'.heap := by rw [hhp]; exact vx_Zq.moved hW0.alike (hN.kept hS.2.1)
  have h : ∀ w ∈ Bundle.ownAtoms own ic cls names, w.before args s' = true := vx_own hat' (vx_isRefq hU'.1) (vx_isRefq hN'.1) hU'.2.word hN'.2.word
  have hown' : s'.vm.findClass own = some m.cls := by rw [hvm]; exact hown
  have hins : (Cond.instantiable cls 6).before args s' = true := h _ (by simp [Bundle.ownAtoms])
  obtain ⟨vm₁, cX, kX, hfX, hkX, -, -, X₁, st1⟩ := Y.newCold hexec (own := own) (C := cls) (index := ik) (n := 6) hown' hk' hins hini'
    (g := F0 m pc ls rest) rfl (by rw [hb]; exact d0) (Nat.le_refl _) (Nat.le_refl _)
  generalize hT1 : (T.setVm vm₁).pushCell { cls := cX, slots := kX.instanceTypes.map defaultValue, vm := .none } = T1 at X₁ st1
  have hcat : (Value.ref T.heap.size).category = 1 := rfl
  have hcellA : T1.heap[T.heap.size]? = some (freshCell cX kX) := by rw [← hT1]; exact State.heap_pushCell_size _ _
  have d3' : decode c.code (pc + 3) = .ok (.dup, 1) := by rw [hb]; exact d3
  have d4' : decode c.code (pc + 4) = .ok (.ldc_w is, 3) := by rw [hb]; exact d4
  have hstr' : vk_R own is text sa s' := vk_R.warm hW0 hstr
  obtain ⟨U, hsteps, hrun, hend, hW, hsame, ce, hce, hO⟩ := X₁.ctorThrowS hexec htr (own := own) (cls := cls) (names := names) (ic := ic) hown' hcls hnames h (fun x hx => nomatch hx) hfX hkX hcellA (by rw [hhp, hT]; exact Nat.le_refl _) (msg := .ref sa) rfl
    (g := { method := m, pc := pc + 7, locals := ls, stack := .ref sa :: .ref T.heap.size :: .ref T.heap.size :: rest, locked := none }) rfl hsize rfl rfl (rest := rest) rfl
    (by rw [hb]; exact d7) (by rw [hb]; exact d10) hout hRframes (by simp only [List.map_cons, List.sum_cons, hcat]; omega) hlocks
  obtain ⟨f1, f2⟩ := vx_frame hsame
  rw [hhp] at f1 f2
  have hWs : s.WarmedH U.vm := State.WarmedH.trans hW0 hW
  have hcl : s.vm.findClass cls = some ce.cls := by
    have h9 := hO.cls
    rw [hvm] at h9
    exact h9
  have hall : s.sameButNew ({ U with vm := s.vm } : State) locs mc ms := by
    subst hA
    obtain ⟨e1, e2⟩ := hsame
    rw [State.setFrames_setFrames] at e1
    have h2 : (T.setVm s.vm).sameButNew ({ U with vm := s.vm } : State) [] (0 + 1) (0 + 6) := ⟨e1, e2⟩
    have h3 := X.same.trans h2
    rw [List.append_nil] at h3
    exact h3.mono hc hs
  refine ⟨U, ?_, .threw T.heap.size, hrun, hend, Or.inr ⟨T.heap.size, rfl, cls, ce, locs, hx U hWs.alike f1 (fun q hq => f2 q hq (fun z hz => nomatch hz)), hce, hO.vm, hcl, hWs, hall, hf⟩⟩
  refine st1 _ ?_
  show Steps p.tables e below (T1.setTop { method := m, pc := pc + 3, locals := ls, stack := .ref T.heap.size :: rest, locked := none }) _
  jvm_step X₁.here [X₁.here.top, hexec, d3', Value.category]
  exact X₁.ldcStringW hexec (own := own) (text := text) (index := is) (a := sa) hown' hstr'.1 hstr'.2
    (g := { method := m, pc := pc + 4, locals := ls, stack := .ref T.heap.size :: .ref T.heap.size :: rest, locked := none }) rfl d4' _ hsteps
end Ends
section Bodies
variable {l : Launch}
theorem vx_ofW {y : MethodName} {ws ws' : List Cond} {rm : Room} {Pc : Array Value → State → Prop} {Qc : Array Value → State → Outcome → State → Prop} {XC : String → State → State → Prop} {mc ms : Nat} {free : Addr → Prop} {cc : ByteArray} {maxL : Nat} {ret : Option FieldType}
    (hy : plainName y.cls = true) (hw : ws = Cond.code y cc maxL ret :: ws')
    (body : ∀ p e s m args below meth c s₁, BodyLoose p l y (headSpec ws rm) cc maxL ret e s m args below meth c s₁ → c.maxLocals = maxL → (∀ x ∈ c.exceptionTable.toList, False) → Pc args s →
      W p l e (headSpec ws rm).room s m args below meth c s.heap [] 0 0 (vx_MQ below Qc XC args s mc ms free) (entryFrame m args maxL)) : vx_Met l y ws rm Pc Qc XC mc ms free := by
  refine MetFree.of_bodyS (code := cc) (maxLocals := maxL) (ret := ret) hy ?_ ?_
  · intro args s m h hn
    obtain ⟨meth, c, h1, h2, h3, h4, h5, h6, -, -⟩ := Cond.code_spec hn (atoms_spec (ws := ws) h _ (by rw [hw]; exact List.mem_cons_self))
    exact ⟨meth, c, h1, h2, h3, h4, h5, h6⟩
  · intro p e s m args below meth c s₁ B hml hP _
    have hh0 : s₁.heap = s.heap := by rw [B.state]; rfl
    have ht : ∀ x ∈ c.exceptionTable.toList, False := by
      obtain ⟨meth9, c9, h1, h2, -, -, -, -, h7, -⟩ := Cond.code_spec B.named (atoms_spec (ws := ws) B.pre _ (by rw [hw]; exact List.mem_cons_self))
      cases Option.some.inj (h1.symm.trans B.method)
      cases Option.some.inj (h2.symm.trans (Stand.of_body B).code)
      intro x hx
      rw [Array.isEmpty_iff.mp h7] at hx
      cases hx
    obtain ⟨t, a1, o, b1, b2, b3⟩ := body p e s m args below meth c s₁ B hml ht hP s₁ hh0 (Stand.of_body B)
    exact ⟨t, o, a1, b1, b2, b3⟩
/-- the table of a body with handlers -/
theorem vx_table {p : Program} {x y : MethodName} {S : Spec} {cc bytes : ByteArray} {maxL maxL' : Nat} {ret ret' : Option FieldType} {e : Env} {s s₁ : State} {m : MethodId} {args : Array Value} {below : List Frame} {meth : Method} {c : Code} {hh : List (Nat × Nat × Nat × Nat)}
    (B : BodyLoose p l y S cc maxL ret e s m args below meth c s₁) (h : (Cond.codeWith y bytes maxL' ret' hh).before args s = true) : c.exceptionTable.toList = tableOf hh := by
  obtain ⟨m9, meth9, c9, hn9, h1, h2, -, -, h6, -⟩ := Cond.codeWith_spec h
  cases Option.some.inj (hn9.symm.trans B.named)
  cases Option.some.inj (h1.symm.trans B.method)
  cases Option.some.inj (h2.symm.trans (Stand.of_body B).code)
  rw [← h6, table_eq]
end Bodies
end VXA
/-! ===== END ===== -/
/-! ===== BEGIN a static call of a method with an exception table ===== -/
section VXS
variable {p : Program} {l : Launch} {e : Env} {R : Room} {s : State} {m : MethodId} {args : Array Value} {below : List Frame} {meth : Method} {c : Code} {T : State} {H : Heap} {locs : List Loc} {cells slots : Nat}
abbrev vx_CSW (R : Room) (s : State) (args : Array Value) (own : String) (index : Nat) (y : MethodName) (bytes : ByteArray) (maxL : Nat) (ret : Option FieldType) (hh : List (Nat × Nat × Nat × Nat)) (ws : List Cond) (rm : Room) (mc ms n : Nat) : Prop :=
  (rm.cells = mc ∧ rm.slots = ms ∧ rm.frames + 1 ≤ R.frames ∧ 8 + (maxL + 11) + rm.locals ≤ R.locals ∧ (∀ w ∈ ws, ∀ (a' : Array Value) (U : State), s.WarmedH U.vm → w.before a' U = true) ∧ Cond.codeWith y bytes maxL ret hh ∈ ws) ∧
  (Cond.codeWith y bytes maxL ret hh).before args s = true ∧ (Cond.initialized y.cls).before args s = true ∧ (y.cls ≠ "java/lang/invoke/MethodHandle" ∧ y.cls ≠ "java/lang/invoke/VarHandle") ∧
  (∀ sig, parseMethodDescriptor y.desc = some sig → n = sig.parameters.length) ∧ (Cond.methodLink own index y).before args s = true ∧ (Cond.static y).before args s = true
theorem vx_cwSW {own : String} {index maxL mc ms : Nat} {y : MethodName} {bytes : ByteArray} {ret : Option FieldType} {hh : List (Nat × Nat × Nat × Nat)} {Ts ws ws' : List Cond} {rm : Room} (n : Nat) (ht : ∀ w ∈ Ts, w.before args s = true) (hT : GoodIn Ts (va_wsS own index y ws)) (hw : ws = Cond.codeWith y bytes maxL ret hh :: ws') (hrc : rm.cells = mc) (hrs : rm.slots = ms)
    (hd : y.cls ≠ "java/lang/invoke/MethodHandle" ∧ y.cls ≠ "java/lang/invoke/VarHandle" ∧ (parseMethodDescriptor y.desc).map (fun d => d.parameters.length) = some n) (hR : rm.frames + 1 ≤ R.frames ∧ 8 + (maxL + 11) + rm.locals ≤ R.locals) :
    vx_CSW R s args own index y bytes maxL ret hh ws rm mc ms n := by
  have ok : ∀ w ∈ va_wsS own index y ws, w.before args s = true := fun w h => ht w (hT w h).1
  have hG : GoodIn Ts ws := fun w h => hT w (by unfold va_wsS; exact List.mem_append_right _ h)
  have hc : Cond.codeWith y bytes maxL ret hh ∈ ws := by rw [hw]; exact List.mem_cons_self
  refine ⟨⟨hrc, hrs, hR.1, hR.2, pay_in ht hG, hc⟩, ht _ (hG _ hc).1, ok _ (by simp [va_wsS]), ⟨hd.1, hd.2.1⟩, fun sig h => ?_, ok _ (by simp [va_wsS]), ok _ (by simp [va_wsS])⟩
  have h2 := hd.2.2
  rw [h] at h2
  exact (Option.some.inj h2).symm
theorem vx_callSW (X : Stand p l e R s m args below meth c T locs cells slots) (hexec : p.tables.exec = Jvm.exec) {own : String} {index : Nat} {y : MethodName} {bytes : ByteArray} {maxL : Nat} {ret : Option FieldType} {hh : List (Nat × Nat × Nat × Nat)}
    (hown : s.vm.findClass own = some m.cls) (hlink : (Cond.methodLink own index y).before args s = true) (hstat : (Cond.static y).before args s = true) (hinit : (Cond.initialized y.cls).before args s = true)
    (hcode : (Cond.codeWith y bytes maxL ret hh).before args s = true) (hy : y.cls ≠ "java/lang/invoke/MethodHandle" ∧ y.cls ≠ "java/lang/invoke/VarHandle")
    {W9 : Nat} {Pre : Pt → Array Value → Prop} {Post : Pt → Array Value → Option Value → Pt → Prop} (hK : Back l R p e below s args y 3 W9 Pre Post)
    {g : JFrame} (hg : g.method = m) (hsize : g.locals.size = c.maxLocals) {argsL rest : List Value} (hlen : ∀ sig, parseMethodDescriptor y.desc = some sig → argsL.length = sig.parameters.length)
    (hstack : g.stack = argsL.reverse ++ rest) (hW : 2 * g.monitorRoom + (rest.map fun v => v.category).sum ≤ W9) (hdg : decode c.code g.pc = .ok (.invokestatic index, 3))
    (hpre : ∀ vm₁, s.WarmedH vm₁ → Pre ⟨T.setVm vm₁, locs, cells, slots⟩ argsL.toArray) :
    ∃ (v : Option Value) (vm₁ : Vm) (B : Pt), s.WarmedH vm₁ ∧ Stand p l e R s m args below meth c B.U B.locs B.cells B.slots ∧ Post ⟨T.setVm vm₁, locs, cells, slots⟩ argsL.toArray v B ∧
      ∀ target, Steps p.tables e below (B.U.setTop { g with pc := g.pc + 3, stack := v.toList ++ rest }) target → Steps p.tables e below (T.setTop g) target := by
  obtain ⟨mk, methM, cM, hnamed, hmethM, -, -, -, -, -, -, hsigM⟩ := Cond.codeWith_spec hcode
  have hstatic : methM.isStatic = true := Cond.static_spec hnamed hmethM hstat
  obtain ⟨kP, hkP, -⟩ := className_of_methodNamed hnamed
  have hinitP : kP.init = .initialized := Cond.initialized_spec (findClass_of_methodNamed hnamed) hkP hinit
  obtain ⟨vm₁, X₁, hstep₁⟩ := X.invokestatic hexec hown hlink hnamed hmethM hstatic hkP hinitP hy (g := g) hg (argsL := argsL) (rest := rest) (hlen _ hsigM) hstack hdg
  obtain ⟨v, B, X', hpost, hsteps⟩ := hK m meth c ⟨T.setVm vm₁, locs, cells, slots⟩ { g with stack := rest } (.invokestatic index) mk argsL.toArray X₁ hg hsize hdg hW (X₁.named hnamed) (hpre vm₁ X₁.warmed)
  exact ⟨v, vm₁, B, X₁.warmed, X', hpost, fun target h => hstep₁ _ fun acts => by rw [doInvoke_state]; exact hsteps.trans h⟩
theorem vx_runSW {y : MethodName} {bytes cc : ByteArray} {maxL nL mc ms n index : Nat} {ret : Option FieldType} {hh : List (Nat × Nat × Nat × Nat)} {ws : List Cond} {rm : Room} {Pc : Array Value → State → Prop} {Qc : Array Value → State → Outcome → State → Prop} {free : Addr → Prop} {Ts : List Cond} {own : String} {As rest : List Value} {g : JFrame}
    (S : CallFix p m c cc nL s args Ts own) (hM : Met l y ws rm Pc Qc mc ms free) (cw : vx_CSW R s args own index y bytes maxL ret hh ws rm mc ms n) (hp : PreS s H Pc As)
    (hg : g.method = m) (hn : As.length = n) (hsize : g.locals.size = nL) (hstack : g.stack = As.reverse ++ rest) (hW : 2 * g.monitorRoom + (rest.map fun v => v.category).sum ≤ 8) (hdg : decode cc g.pc = .ok (.invokestatic index, 3)) (hf : cells + mc ≤ R.cells ∧ slots + ms ≤ R.slots) :
    va_Run p l e R s m args below meth c H locs cells slots mc ms g rest (Qc As.toArray) (free) := by
  obtain ⟨⟨hrc, hrs, hfr, hlo, hws, hcw⟩, hcode, hini, hy, hlen, hl, hstt⟩ := cw
  have hK : Back l R p e below s args y 3 8 (PreOf R mc ms Pc) (PostOf Qc mc ms free) := va_backW (hh := hh) (bytes := bytes) (maxL := maxL) (ret := ret) hM hp.1 hrc hrs hfr hlo hws hcw (fun a' U hW => word_at hW (Or.inl (by first | rfl | simp [Cond.onTables, Cond.keeps, Cond.steady])) hini)
  obtain ⟨hx, hb, hml, ho, -⟩ := S
  intro T hT X
  obtain ⟨v, vm₁, ⟨U', l2, c2, s2⟩, hW₁, X', ⟨g', mk, t, L, e1, e2, hq, h1, hL, h2, h3⟩, st⟩ := vx_callSW X hx (hh := hh) (bytes := bytes) (maxL := maxL) (ret := ret) ho hl hstt hini hcode hy hK hg (hsize.trans hml.symm) (argsL := As) (rest := rest) (fun sig h => hn.trans (hlen sig h)) hstack hW (by rw [hb]; exact hdg)
    (fun vm₁ hW₁ => ⟨hf.1, hf.2, hp.2 (T.setVm vm₁) hT hW₁⟩)
  dsimp only [Pt.U, Pt.locs, Pt.cells, Pt.slots] at X' e1 e2 h1 h2 h3 st
  subst h1; subst h2; subst h3
  exact ⟨v, (T.setVm vm₁).calling g' mk As.toArray, t, U', L, hT, X', hL, e1, e2, hq, st⟩
/-- a thing of a world lies in the heap -/
theorem vx_lt {D : va_G} {cl : List vw_C} {ws : va_W} {H1 : Heap} (h : va_P D cl ws H1) {k : Nat} {q : Nat × va_E} (hk : ws[k]? = some q) : q.1 < H1.size := (h k q hk).lt
end VXS
/-! ===== END ===== -/
/-! ===== BEGIN methods with a table of their own: called by a name, returning or throwing ===== -/
section VXH
/-! vx_backW, vx_callVX, vx_callSX, vx_callVW, vx_runVW, vx_runVX, vx_runSX, vx_ofWH follow the same proofs as their sisters above (Free/Laws.lean, Shelf42/LK1.lean); vx_outP calls Shelf42/NT130.lean (outThrough). -/
section
variable {l : Launch} {R : Room} {p : Program} {e : Env} {below : List Frame} {s : State} {sargs : Array Value} {y : MethodName} {len W9 : Nat}
theorem vx_backW {ws : List Cond} {rm : Room} {Pc : Array Value → State → Prop} {Qc : Array Value → State → Outcome → State → Prop} {XC : String → State → State → Prop} {mc ms : Nat} {free : Addr → Prop} {bytes : ByteArray} {maxL : Nat} {ret : Option FieldType} {hh : List (Nat × Nat × Nat × Nat)}
    (hM : vx_Met l y ws rm Pc Qc XC mc ms free) (hblind : FrameBlind Pc) (hrc : rm.cells = mc) (hrs : rm.slots = ms)
    (hframes : rm.frames + 1 ≤ R.frames) (hlocals : W9 + (maxL + 11) + rm.locals ≤ R.locals)
    (hws : ∀ w ∈ ws, ∀ a' U, s.WarmedH U.vm → w.before a' U = true) (hcode : Cond.codeWith y bytes maxL ret hh ∈ ws) (hinit : ∀ a' U, s.WarmedH U.vm → (Cond.initialized y.cls).before a' U = true) :
    vx_Back l R p e below s sargs y len W9 (PreOf R mc ms Pc) (PostOf Qc mc ms free) (vx_Post XC mc ms free) := by
  intro m meth c A g ig mk a X hg hsize hdg hW hn hp
  have h1 : (headSpec ws rm).pre.before a A.U = true := atoms_intro fun w hw => hws w hw _ _ X.warmed
  have h2 : (Cond.codeWith y bytes maxL ret hh).before a A.U = true := hws _ hcode _ _ X.warmed
  have h3 : (Cond.initialized y.cls).before a A.U = true := hinit _ _ X.warmed
  have h4 : A.cells + (headSpec ws rm).room.cells ≤ R.cells := by rw [show (headSpec ws rm).room.cells = mc from hrc]; exact hp.1
  have h5 : A.slots + (headSpec ws rm).room.slots ≤ R.slots := by rw [show (headSpec ws rm).room.slots = ms from hrs]; exact hp.2.1
  have hPc : Pc a (A.U.calling g mk a) := hblind _ _ _ _ hp.2.2
  obtain ⟨U, Ls, c0, s0⟩ := A
  dsimp only [Pt.U, Pt.locs, Pt.cells, Pt.slots] at h1 h2 h3 h4 h5 X hn hPc ⊢
  obtain ⟨m9, methY, cY, hn9, hmY, hcY, -, hlY, -⟩ := Cond.codeWith_spec h2
  cases Option.some.inj (hn9.symm.trans hn)
  obtain ⟨kY, hkY, -⟩ := className_of_methodNamed hn
  have hinitY : kY.init = .initialized := Cond.initialized_spec (findClass_of_methodNamed hn) hkY h3
  have h : At U g.method c below := by rw [hg]; exact X.here
  have hlocals9 : W9 + (maxL + 11) + (headSpec ws rm).room.locals ≤ R.locals := hlocals
  have happ : (headSpec ws rm).appliesLoose y e.platform (U.calling g mk a) = true :=
    Spec.appliesLoose_calling (g := g) h hdg hn hkY hinitY
      (X.room_calling (g := g) (R' := (headSpec ws rm).room) hsize hmY hcY hframes (by rw [hlY]; omega) h4 h5) h1
  obtain ⟨mid, hmid⟩ := h.above
  have hfr : (U.setTop g).frames = (.java g :: mid) ++ below := by rw [State.frames_setTop' g h.top, hmid]; rfl
  obtain ⟨o, s₂, hsteps, -, hend, hq⟩ := Steps.callFree hM p X.admits X.cas X.clock (acts := []) hfr happ hPc trivial
  have hq' : vx_Q Qc XC mc ms free a (U.calling g mk a) o s₂ := hq
  rw [State.frames_setTop' g h.top] at hend
  obtain ⟨g₀, hg0⟩ := Option.isSome_iff_exists.mp h.top
  obtain ⟨r, hr⟩ := State.topJava?_eq_some.mp hg0
  have hr' : (({ U with heap := s₂.heap, slotsUsed := s₂.slotsUsed } : State).setVm s₂.vm).frames = .java g₀ :: r := hr
  rcases hq' with ⟨hqc, L, hfe, hL⟩ | ⟨q, rfl, E, ce, L, hx, hce, hcv, hcl, hW₂, hsm, hL⟩
  · obtain ⟨⟨v, rfl⟩, hW₂, e2, q2, q3, q4, q5, q6⟩ := id hfe
    have e3 : s₂ = ({ (U.calling g mk a).setFrames s₂.frames with heap := s₂.heap, slotsUsed := s₂.slotsUsed } : State).setVm s₂.vm := by
      have : s₂ = ({ s₂ with vm := (U.calling g mk a).vm } : State).setVm s₂.vm := rfl
      rw [e2] at this
      exact this
    obtain ⟨c₂, i₂, len₂, hc₂, hd₂, hf₂⟩ := hend
    have hW' : U.WarmedH s₂.vm := hW₂
    have hcc : c₂ = c := by
      have h1 : s₂.code? g.method = U.code? g.method := by
        rw [State.code?_eq, State.code?_eq, hW'.alike.method?]
      exact Option.some.inj (hc₂.symm.trans (h1.trans h.code))
    subst hcc
    have hlen : len₂ = len := by rw [hdg] at hd₂; cases hd₂; rfl
    subst hlen
    have hs₂ : s₂ = (({ U with heap := s₂.heap, slotsUsed := s₂.slotsUsed } : State).setVm s₂.vm).setTop { g with pc := g.pc + len₂, stack := v.toList ++ g.stack } := by
      refine e3.trans ?_
      rw [hf₂, State.calling_eq h.top, State.setFrames_setFrames, State.setTop_of_frames _ hr', hr]
      rfl
    have hsame : U.sameButNew ({ U with heap := s₂.heap, slotsUsed := s₂.slotsUsed } : State) L mc ms := by
      refine ⟨?_, q2, q3, q4, q5, q6⟩
      obtain ⟨t, ht, -⟩ := State.frames_cons hr
      show ({ U with heap := s₂.heap, slotsUsed := s₂.slotsUsed } : State) = { U.setFrames U.frames with heap := s₂.heap, slotsUsed := s₂.slotsUsed }
      rw [State.setFrames_self ht]
    subst hg
    refine Or.inl ⟨v, ⟨(({ U with heap := s₂.heap, slotsUsed := s₂.slotsUsed } : State).setVm s₂.vm), Ls ++ L, c0 + mc, s0 + ms⟩,
      ⟨X.admits, X.cas, X.clock, X.frames, X.room, X.hears, X.method, X.code, (X.here.setHeapUsed s₂.heap s₂.slotsUsed).setVm hW'.alike, X.tail, State.WarmedH.trans X.warmed hW', X.limits, X.bytes, X.same.trans (hsame.setVm s.vm)⟩,
      ⟨g, mk, s₂, L, rfl, rfl, hqc, rfl, hL, rfl, rfl⟩, ?_⟩
    show Steps p.tables e below _ ((({ U with heap := s₂.heap, slotsUsed := s₂.slotsUsed } : State).setVm s₂.vm).setTop { g with pc := g.pc + len₂, stack := v.toList ++ g.stack })
    rw [← hs₂]
    exact hsteps
  · obtain ⟨e2, q2, q3, q4, q5, q6⟩ := id hsm
    have e3 : s₂ = ({ (U.calling g mk a).setFrames s₂.frames with heap := s₂.heap, slotsUsed := s₂.slotsUsed } : State).setVm s₂.vm := by
      have : s₂ = ({ s₂ with vm := (U.calling g mk a).vm } : State).setVm s₂.vm := rfl
      rw [e2] at this
      exact this
    have hf₂ : s₂.frames = .throwing q :: .java g :: U.frames.tail := hend
    have hW' : U.WarmedH s₂.vm := hW₂
    have hs₂ : s₂ = ((({ U with heap := s₂.heap, slotsUsed := s₂.slotsUsed } : State).setVm s₂.vm).setTop g).pushFrame (.throwing q) := by
      refine e3.trans ?_
      rw [hf₂, State.calling_eq h.top, State.setFrames_setFrames, State.pushFrame, State.frames_setTop _ hr', State.setTop_of_frames _ hr', State.setFrames_setFrames, hr]
      rfl
    have hsame : U.sameButNew ({ U with heap := s₂.heap, slotsUsed := s₂.slotsUsed } : State) L mc ms := by
      refine ⟨?_, q2, q3, q4, q5, q6⟩
      obtain ⟨t, ht, -⟩ := State.frames_cons hr
      show ({ U with heap := s₂.heap, slotsUsed := s₂.slotsUsed } : State) = { U.setFrames U.frames with heap := s₂.heap, slotsUsed := s₂.slotsUsed }
      rw [State.setFrames_self ht]
    subst hg
    refine Or.inr ⟨q, ⟨(({ U with heap := s₂.heap, slotsUsed := s₂.slotsUsed } : State).setVm s₂.vm), Ls ++ L, c0 + mc, s0 + ms⟩,
      ⟨X.admits, X.cas, X.clock, X.frames, X.room, X.hears, X.method, X.code, (X.here.setHeapUsed s₂.heap s₂.slotsUsed).setVm hW'.alike, X.tail, State.WarmedH.trans X.warmed hW', X.limits, X.bytes, X.same.trans (hsame.setVm s.vm)⟩,
      ⟨g, mk, s₂, L, E, ce, rfl, rfl, hx, hce, hcv, hcl, rfl, hL, rfl, rfl⟩, ?_⟩
    show Steps p.tables e below _ (((({ U with heap := s₂.heap, slotsUsed := s₂.slotsUsed } : State).setVm s₂.vm).setTop g).pushFrame (.throwing q))
    rw [← hs₂]
    exact hsteps
end
variable {p : Program} {l : Launch} {e : Env} {R : Room} {s : State} {m : MethodId} {args : Array Value} {below : List Frame} {meth : Method} {c : Code} {T : State} {H : Heap} {locs : List Loc} {cells slots : Nat}
theorem vx_callVX (X : Stand p l e R s m args below meth c T locs cells slots) (hexec : p.tables.exec = Jvm.exec) {own C : String} {index : Nat} {y : MethodName} {bytes : ByteArray} {maxL : Nat} {ret : Option FieldType} {hh : List (Nat × Nat × Nat × Nat)}
    (hown : s.vm.findClass own = some m.cls) (hlink : (Cond.methodLink own index y).before args s = true) (hinst : (Cond.instanceMethod y).before args s = true) (hsel : (Cond.selects C y y).before args s = true)
    (hcode : (Cond.codeWith y bytes maxL ret hh).before args s = true) (hy : y.cls ≠ "java/lang/invoke/MethodHandle" ∧ y.cls ≠ "java/lang/invoke/VarHandle")
    {W9 : Nat} {Pre : Pt → Array Value → Prop} {Post : Pt → Array Value → Option Value → Pt → Prop} {PostX : Pt → Array Value → Addr → Pt → Prop} (hK : vx_Back l R p e below s args y 3 W9 Pre Post PostX)
    {b : Addr} {cellB : Cell} (hcell : T.heap[b]? = some cellB) (hobj : cellB.vm.isStatics = false) (hcls : s.vm.findClass C = some cellB.cls)
    {g : JFrame} (hg : g.method = m) (hsize : g.locals.size = c.maxLocals) {argsL rest : List Value} (hlen : ∀ sig, parseMethodDescriptor y.desc = some sig → argsL.length = sig.parameters.length)
    (hstack : g.stack = argsL.reverse ++ .ref b :: rest) (hW : 2 * g.monitorRoom + (rest.map fun v => v.category).sum ≤ W9) (hdg : decode c.code g.pc = .ok (.invokevirtual index, 3))
    (hpre : ∀ vm₁, s.WarmedH vm₁ → Pre ⟨T.setVm vm₁, locs, cells, slots⟩ (Value.ref b :: argsL).toArray) :
    (∃ (v : Option Value) (vm₁ : Vm) (B : Pt), s.WarmedH vm₁ ∧ Stand p l e R s m args below meth c B.U B.locs B.cells B.slots ∧ Post ⟨T.setVm vm₁, locs, cells, slots⟩ (Value.ref b :: argsL).toArray v B ∧
      ∀ target, Steps p.tables e below (B.U.setTop { g with pc := g.pc + 3, stack := v.toList ++ rest }) target → Steps p.tables e below (T.setTop g) target) ∨
    (∃ (q : Addr) (vm₁ : Vm) (B : Pt), s.WarmedH vm₁ ∧ Stand p l e R s m args below meth c B.U B.locs B.cells B.slots ∧ PostX ⟨T.setVm vm₁, locs, cells, slots⟩ (Value.ref b :: argsL).toArray q B ∧
      Steps p.tables e below (T.setTop g) ((B.U.setTop { g with stack := rest }).pushFrame (.throwing q))) := by
  obtain ⟨mk, methM, hnamed, hmethM, hstM, habM⟩ := Cond.instanceMethod_spec hinst
  obtain ⟨m8, methM', cM, hn8, hmethM', -, -, -, -, -, -, hsigM⟩ := Cond.codeWith_spec hcode
  cases Option.some.inj (hn8.symm.trans hnamed)
  cases hmethM.symm.trans hmethM'
  obtain ⟨c2, r2, m2, q1, q2, q3, q4, kP, hkP, hkPi⟩ := Cond.selects_spec hsel
  cases hcls.symm.trans q1
  cases (State.methodFound?_of_named hnamed hy).symm.trans q2
  cases hnamed.symm.trans q3
  have hselP : selectMethod e.platform s.vm cellB.cls mk = .method mk := by rw [Launch.admits_selectMethod X.admits]; exact q4
  obtain ⟨vm₁, X₁, hstep₁⟩ := X.invokevirtual hexec hown hlink hnamed hmethM hstM hkP hkPi hy (a := b) (cell := cellB) hcell
    (fun z h => by rw [h] at hobj; cases hobj) hselP hmethM habM hkP hkPi (g := g) hg (argsL := argsL) (rest := rest) (hlen _ hsigM) hstack hdg
  rcases hK m meth c ⟨T.setVm vm₁, locs, cells, slots⟩ { g with stack := rest } (.invokevirtual index) mk (Value.ref b :: argsL).toArray X₁ hg hsize hdg hW (X₁.named hnamed) (hpre vm₁ X₁.warmed) with ⟨v, B, X', hpost, hsteps⟩ | ⟨q, B, X', hpost, hsteps⟩
  · exact Or.inl ⟨v, vm₁, B, X₁.warmed, X', hpost, fun target h => hstep₁ _ fun acts => by rw [doInvoke_state]; exact hsteps.trans h⟩
  · exact Or.inr ⟨q, vm₁, B, X₁.warmed, X', hpost, hstep₁ _ fun acts => by rw [doInvoke_state]; exact hsteps⟩
theorem vx_callSX (X : Stand p l e R s m args below meth c T locs cells slots) (hexec : p.tables.exec = Jvm.exec) {own : String} {index : Nat} {y : MethodName} {bytes : ByteArray} {maxL : Nat} {ret : Option FieldType} {hh : List (Nat × Nat × Nat × Nat)}
    (hown : s.vm.findClass own = some m.cls) (hlink : (Cond.methodLink own index y).before args s = true) (hstat : (Cond.static y).before args s = true) (hinit : (Cond.initialized y.cls).before args s = true)
    (hcode : (Cond.codeWith y bytes maxL ret hh).before args s = true) (hy : y.cls ≠ "java/lang/invoke/MethodHandle" ∧ y.cls ≠ "java/lang/invoke/VarHandle")
    {W9 : Nat} {Pre : Pt → Array Value → Prop} {Post : Pt → Array Value → Option Value → Pt → Prop} {PostX : Pt → Array Value → Addr → Pt → Prop} (hK : vx_Back l R p e below s args y 3 W9 Pre Post PostX)
    {g : JFrame} (hg : g.method = m) (hsize : g.locals.size = c.maxLocals) {argsL rest : List Value} (hlen : ∀ sig, parseMethodDescriptor y.desc = some sig → argsL.length = sig.parameters.length)
    (hstack : g.stack = argsL.reverse ++ rest) (hW : 2 * g.monitorRoom + (rest.map fun v => v.category).sum ≤ W9) (hdg : decode c.code g.pc = .ok (.invokestatic index, 3))
    (hpre : ∀ vm₁, s.WarmedH vm₁ → Pre ⟨T.setVm vm₁, locs, cells, slots⟩ argsL.toArray) :
    (∃ (v : Option Value) (vm₁ : Vm) (B : Pt), s.WarmedH vm₁ ∧ Stand p l e R s m args below meth c B.U B.locs B.cells B.slots ∧ Post ⟨T.setVm vm₁, locs, cells, slots⟩ argsL.toArray v B ∧
      ∀ target, Steps p.tables e below (B.U.setTop { g with pc := g.pc + 3, stack := v.toList ++ rest }) target → Steps p.tables e below (T.setTop g) target) ∨
    (∃ (q : Addr) (vm₁ : Vm) (B : Pt), s.WarmedH vm₁ ∧ Stand p l e R s m args below meth c B.U B.locs B.cells B.slots ∧ PostX ⟨T.setVm vm₁, locs, cells, slots⟩ argsL.toArray q B ∧
      Steps p.tables e below (T.setTop g) ((B.U.setTop { g with stack := rest }).pushFrame (.throwing q))) := by
  obtain ⟨mk, methM, cM, hnamed, hmethM, -, -, -, -, -, -, hsigM⟩ := Cond.codeWith_spec hcode
  have hstatic : methM.isStatic = true := Cond.static_spec hnamed hmethM hstat
  obtain ⟨kP, hkP, -⟩ := className_of_methodNamed hnamed
  have hinitP : kP.init = .initialized := Cond.initialized_spec (findClass_of_methodNamed hnamed) hkP hinit
  obtain ⟨vm₁, X₁, hstep₁⟩ := X.invokestatic hexec hown hlink hnamed hmethM hstatic hkP hinitP hy (g := g) hg (argsL := argsL) (rest := rest) (hlen _ hsigM) hstack hdg
  rcases hK m meth c ⟨T.setVm vm₁, locs, cells, slots⟩ { g with stack := rest } (.invokestatic index) mk argsL.toArray X₁ hg hsize hdg hW (X₁.named hnamed) (hpre vm₁ X₁.warmed) with ⟨v, B, X', hpost, hsteps⟩ | ⟨q, B, X', hpost, hsteps⟩
  · exact Or.inl ⟨v, vm₁, B, X₁.warmed, X', hpost, fun target h => hstep₁ _ fun acts => by rw [doInvoke_state]; exact hsteps.trans h⟩
  · exact Or.inr ⟨q, vm₁, B, X₁.warmed, X', hpost, hstep₁ _ fun acts => by rw [doInvoke_state]; exact hsteps⟩
theorem vx_callVW (X : Stand p l e R s m args below meth c T locs cells slots) (hexec : p.tables.exec = Jvm.exec) {own C : String} {index : Nat} {y : MethodName} {bytes : ByteArray} {maxL : Nat} {ret : Option FieldType} {hh : List (Nat × Nat × Nat × Nat)}
    (hown : s.vm.findClass own = some m.cls) (hlink : (Cond.methodLink own index y).before args s = true) (hinst : (Cond.instanceMethod y).before args s = true) (hsel : (Cond.selects C y y).before args s = true)
    (hcode : (Cond.codeWith y bytes maxL ret hh).before args s = true) (hy : y.cls ≠ "java/lang/invoke/MethodHandle" ∧ y.cls ≠ "java/lang/invoke/VarHandle")
    {W9 : Nat} {Pre : Pt → Array Value → Prop} {Post : Pt → Array Value → Option Value → Pt → Prop} (hK : Back l R p e below s args y 3 W9 Pre Post)
    {b : Addr} {cellB : Cell} (hcell : T.heap[b]? = some cellB) (hobj : cellB.vm.isStatics = false) (hcls : s.vm.findClass C = some cellB.cls)
    {g : JFrame} (hg : g.method = m) (hsize : g.locals.size = c.maxLocals) {argsL rest : List Value} (hlen : ∀ sig, parseMethodDescriptor y.desc = some sig → argsL.length = sig.parameters.length)
    (hstack : g.stack = argsL.reverse ++ .ref b :: rest) (hW : 2 * g.monitorRoom + (rest.map fun v => v.category).sum ≤ W9) (hdg : decode c.code g.pc = .ok (.invokevirtual index, 3))
    (hpre : ∀ vm₁, s.WarmedH vm₁ → Pre ⟨T.setVm vm₁, locs, cells, slots⟩ (Value.ref b :: argsL).toArray) :
    ∃ (v : Option Value) (vm₁ : Vm) (B : Pt), s.WarmedH vm₁ ∧ Stand p l e R s m args below meth c B.U B.locs B.cells B.slots ∧ Post ⟨T.setVm vm₁, locs, cells, slots⟩ (Value.ref b :: argsL).toArray v B ∧
      ∀ target, Steps p.tables e below (B.U.setTop { g with pc := g.pc + 3, stack := v.toList ++ rest }) target → Steps p.tables e below (T.setTop g) target := by
  obtain ⟨mk, methM, hnamed, hmethM, hstM, habM⟩ := Cond.instanceMethod_spec hinst
  obtain ⟨m8, methM', cM, hn8, hmethM', -, -, -, -, -, -, hsigM⟩ := Cond.codeWith_spec hcode
  cases Option.some.inj (hn8.symm.trans hnamed)
  cases hmethM.symm.trans hmethM'
  obtain ⟨c2, r2, m2, q1, q2, q3, q4, kP, hkP, hkPi⟩ := Cond.selects_spec hsel
  cases hcls.symm.trans q1
  cases (State.methodFound?_of_named hnamed hy).symm.trans q2
  cases hnamed.symm.trans q3
  have hselP : selectMethod e.platform s.vm cellB.cls mk = .method mk := by rw [Launch.admits_selectMethod X.admits]; exact q4
  obtain ⟨vm₁, X₁, hstep₁⟩ := X.invokevirtual hexec hown hlink hnamed hmethM hstM hkP hkPi hy (a := b) (cell := cellB) hcell
    (fun z h => by rw [h] at hobj; cases hobj) hselP hmethM habM hkP hkPi (g := g) hg (argsL := argsL) (rest := rest) (hlen _ hsigM) hstack hdg
  obtain ⟨v, B, X', hpost, hsteps⟩ := hK m meth c ⟨T.setVm vm₁, locs, cells, slots⟩ { g with stack := rest } (.invokevirtual index) mk (Value.ref b :: argsL).toArray X₁ hg hsize hdg hW (X₁.named hnamed) (hpre vm₁ X₁.warmed)
  exact ⟨v, vm₁, B, X₁.warmed, X', hpost, fun target h => hstep₁ _ fun acts => by rw [doInvoke_state]; exact hsteps.trans h⟩
abbrev vx_CVW (R : Room) (s : State) (args : Array Value) (own C : String) (index : Nat) (y : MethodName) (bytes : ByteArray) (maxL : Nat) (ret : Option FieldType) (hh : List (Nat × Nat × Nat × Nat)) (ws : List Cond) (rm : Room) (mc ms n : Nat) : Prop :=
  (rm.cells = mc ∧ rm.slots = ms ∧ rm.frames + 1 ≤ R.frames ∧ 8 + (maxL + 11) + rm.locals ≤ R.locals ∧ (∀ w ∈ ws, ∀ (a' : Array Value) (U : State), s.WarmedH U.vm → w.before a' U = true) ∧ Cond.codeWith y bytes maxL ret hh ∈ ws) ∧
  (Cond.codeWith y bytes maxL ret hh).before args s = true ∧ (Cond.initialized y.cls).before args s = true ∧ (y.cls ≠ "java/lang/invoke/MethodHandle" ∧ y.cls ≠ "java/lang/invoke/VarHandle") ∧
  (∀ sig, parseMethodDescriptor y.desc = some sig → n = sig.parameters.length) ∧ (Cond.methodLink own index y).before args s = true ∧ (Cond.instanceMethod y).before args s = true ∧ (Cond.selects C y y).before args s = true
theorem vx_cwVW {own C : String} {index maxL mc ms : Nat} {y : MethodName} {bytes : ByteArray} {ret : Option FieldType} {hh : List (Nat × Nat × Nat × Nat)} {Ts ws ws' : List Cond} {rm : Room} (n : Nat) (ht : ∀ w ∈ Ts, w.before args s = true) (hT : GoodIn Ts (wsV own index C y ws)) (hw : ws = Cond.codeWith y bytes maxL ret hh :: ws') (hrc : rm.cells = mc) (hrs : rm.slots = ms)
    (hd : y.cls = C ∧ y.cls ≠ "java/lang/invoke/MethodHandle" ∧ y.cls ≠ "java/lang/invoke/VarHandle" ∧ (parseMethodDescriptor y.desc).map (fun d => d.parameters.length) = some n) (hR : rm.frames + 1 ≤ R.frames ∧ 8 + (maxL + 11) + rm.locals ≤ R.locals) :
    vx_CVW R s args own C index y bytes maxL ret hh ws rm mc ms n := by
  obtain ⟨hC, hd⟩ := hd
  subst hC
  have ok : ∀ w ∈ wsV own index y.cls y ws, w.before args s = true := fun w h => ht w (hT w h).1
  have hG : GoodIn Ts ws := fun w h => hT w (by unfold wsV; exact List.mem_append_right _ h)
  have hc : Cond.codeWith y bytes maxL ret hh ∈ ws := by rw [hw]; exact List.mem_cons_self
  refine ⟨⟨hrc, hrs, hR.1, hR.2, pay_in ht hG, hc⟩, ht _ (hG _ hc).1, ok _ (by simp [wsV]), ⟨hd.1, hd.2.1⟩, fun sig h => ?_, ok _ (by simp [wsV]), ok _ (by simp [wsV]), ok _ (by simp [wsV])⟩
  have h2 := hd.2.2
  rw [h] at h2
  exact (Option.some.inj h2).symm
theorem vx_runVW {y : MethodName} {bytes cc : ByteArray} {maxL nL mc ms n index : Nat} {ret : Option FieldType} {hh : List (Nat × Nat × Nat × Nat)} {ws : List Cond} {rm : Room} {Pc : Array Value → State → Prop} {Qc : Array Value → State → Outcome → State → Prop} {free : Addr → Prop} {Ts : List Cond} {own C : String} {b : Addr} {As rest : List Value} {g : JFrame}
    (S : CallFix p m c cc nL s args Ts own) (hM : Met l y ws rm Pc Qc mc ms free) (cw : vx_CVW R s args own C index y bytes maxL ret hh ws rm mc ms n) (hp : PreV s H C b Pc As)
    (hg : g.method = m) (hn : As.length = n) (hsize : g.locals.size = nL) (hstack : g.stack = As.reverse ++ .ref b :: rest) (hW : 2 * g.monitorRoom + (rest.map fun v => v.category).sum ≤ 8) (hdg : decode cc g.pc = .ok (.invokevirtual index, 3)) (hf : cells + mc ≤ R.cells ∧ slots + ms ≤ R.slots) :
    va_Run p l e R s m args below meth c H locs cells slots mc ms g rest (Qc (Value.ref b :: As).toArray) free := by
  obtain ⟨⟨hrc, hrs, hfr, hlo, hws, hcw⟩, hcode, hini, hy, hlen, hl, hin, hse⟩ := cw
  have hK : Back l R p e below s args y 3 8 (PreOf R mc ms Pc) (PostOf Qc mc ms free) := va_backW (hh := hh) (bytes := bytes) (maxL := maxL) (ret := ret) hM hp.1 hrc hrs hfr hlo hws hcw (fun a' U hW => word_at hW (Or.inl (by first | rfl | simp [Cond.onTables, Cond.keeps, Cond.steady])) hini)
  obtain ⟨hx, hb, hml, ho, -⟩ := S
  obtain ⟨-, ⟨cellB, hcB, hoB, hclB⟩, hPc⟩ := hp
  intro T hT X
  obtain ⟨v, vm₁, ⟨U', l2, c2, s2⟩, hW₁, X', ⟨g', mk, t, L, e1, e2, hq, h1, hL, h2, h3⟩, st⟩ := vx_callVW X hx (C := C) (hh := hh) (bytes := bytes) (maxL := maxL) (ret := ret) ho hl hin hse hcode hy hK (by rw [hT]; exact hcB) hoB hclB hg (hsize.trans hml.symm) (argsL := As) (rest := rest) (fun sig h => hn.trans (hlen sig h)) hstack hW (by rw [hb]; exact hdg)
    (fun vm₁ hW₁ => ⟨hf.1, hf.2, hPc (T.setVm vm₁) hT hW₁⟩)
  dsimp only [Pt.U, Pt.locs, Pt.cells, Pt.slots] at X' e1 e2 h1 h2 h3 st
  subst h1; subst h2; subst h3
  exact ⟨v, (T.setVm vm₁).calling g' mk (Value.ref b :: As).toArray, t, U', L, hT, X', hL, e1, e2, hq, st⟩
section
variable {y : MethodName} {bytes cc : ByteArray} {maxL nL mc ms n index : Nat} {ret : Option FieldType} {ws : List Cond} {rm : Room} {Pc : Array Value → State → Prop} {Qc : Array Value → State → Outcome → State → Prop} {XC : String → State → State → Prop} {free : Addr → Prop} {Ts : List Cond} {own C : String} {b : Addr} {As rest : List Value} {g : JFrame}
theorem vx_runVX {hh : List (Nat × Nat × Nat × Nat)} (S : CallFix p m c cc nL s args Ts own) (hM : vx_Met l y ws rm Pc Qc XC mc ms free) (cw : vx_CVW R s args own C index y bytes maxL ret hh ws rm mc ms n) (hp : PreV s H C b Pc As)
    (hg : g.method = m) (hn : As.length = n) (hsize : g.locals.size = nL) (hstack : g.stack = As.reverse ++ .ref b :: rest) (hW : 2 * g.monitorRoom + (rest.map fun v => v.category).sum ≤ 8) (hdg : decode cc g.pc = .ok (.invokevirtual index, 3)) (hf : cells + mc ≤ R.cells ∧ slots + ms ≤ R.slots) :
    vx_Run p l e R s m args below meth c H locs cells slots mc ms g rest (Qc (Value.ref b :: As).toArray) XC free := by
  obtain ⟨⟨hrc, hrs, hfr, hlo, hws, hcw⟩, hcode, hini, hy, hlen, hl, hin, hse⟩ := cw
  have hK : vx_Back l R p e below s args y 3 8 (PreOf R mc ms Pc) (PostOf Qc mc ms free) (vx_Post XC mc ms free) := vx_backW (hh := hh) (bytes := bytes) (maxL := maxL) (ret := ret) hM hp.1 hrc hrs hfr hlo hws hcw (fun a' U hW => word_at hW (Or.inl (by first | rfl | simp [Cond.onTables, Cond.keeps, Cond.steady])) hini)
  obtain ⟨hx, hb, hml, ho, -⟩ := S
  obtain ⟨-, ⟨cellB, hcB, hoB, hclB⟩, hPc⟩ := hp
  intro T hT X
  rcases vx_callVX X hx (C := C) (hh := hh) (bytes := bytes) (maxL := maxL) (ret := ret) ho hl hin hse hcode hy hK (by rw [hT]; exact hcB) hoB hclB hg (hsize.trans hml.symm) (argsL := As) (rest := rest) (fun sig h => hn.trans (hlen sig h)) hstack hW (by rw [hb]; exact hdg)
    (fun vm₁ hW₁ => ⟨hf.1, hf.2, hPc (T.setVm vm₁) hT hW₁⟩) with ⟨v, vm₁, ⟨U', l2, c2, s2⟩, hW₁, X', ⟨g', mk, t, L, e1, e2, hq, h1, hL, h2, h3⟩, st⟩ | ⟨q, vm₁, ⟨U', l2, c2, s2⟩, hW₁, X', ⟨g', mk, t, L, E, ce, e1, e2, hq, hce, hcv, hcl, h1, hL, h2, h3⟩, st⟩
  · dsimp only [Pt.U, Pt.locs, Pt.cells, Pt.slots] at X' e1 e2 h1 h2 h3 st
    subst h1; subst h2; subst h3
    exact Or.inl ⟨v, (T.setVm vm₁).calling g' mk (Value.ref b :: As).toArray, t, U', L, hT, X', hL, e1, e2, hq, st⟩
  · dsimp only [Pt.U, Pt.locs, Pt.cells, Pt.slots] at X' e1 e2 h1 h2 h3 st hcl
    subst h1; subst h2; subst h3
    exact Or.inr ⟨q, (T.setVm vm₁).calling g' mk (Value.ref b :: As).toArray, t, U', L, E, ce, hT, X', hL, e1, e2, hq, hce, hcv, vx_cls hW₁ hcl, st⟩
theorem vx_runSX {hh : List (Nat × Nat × Nat × Nat)} (S : CallFix p m c cc nL s args Ts own) (hM : vx_Met l y ws rm Pc Qc XC mc ms free) (cw : vx_CSW R s args own index y bytes maxL ret hh ws rm mc ms n) (hp : PreS s H Pc As)
    (hg : g.method = m) (hn : As.length = n) (hsize : g.locals.size = nL) (hstack : g.stack = As.reverse ++ rest) (hW : 2 * g.monitorRoom + (rest.map fun v => v.category).sum ≤ 8) (hdg : decode cc g.pc = .ok (.invokestatic index, 3)) (hf : cells + mc ≤ R.cells ∧ slots + ms ≤ R.slots) :
    vx_Run p l e R s m args below meth c H locs cells slots mc ms g rest (Qc As.toArray) XC free := by
  obtain ⟨⟨hrc, hrs, hfr, hlo, hws, hcw⟩, hcode, hini, hy, hlen, hl, hstt⟩ := cw
  have hK : vx_Back l R p e below s args y 3 8 (PreOf R mc ms Pc) (PostOf Qc mc ms free) (vx_Post XC mc ms free) := vx_backW (hh := hh) (bytes := bytes) (maxL := maxL) (ret := ret) hM hp.1 hrc hrs hfr hlo hws hcw (fun a' U hW => word_at hW (Or.inl (by first | rfl | simp [Cond.onTables, Cond.keeps, Cond.steady])) hini)
  obtain ⟨hx, hb, hml, ho, -⟩ := S
  intro T hT X
  rcases vx_callSX X hx (hh := hh) (bytes := bytes) (maxL := maxL) (ret := ret) ho hl hstt hini hcode hy hK hg (hsize.trans hml.symm) (argsL := As) (rest := rest) (fun sig h => hn.trans (hlen sig h)) hstack hW (by rw [hb]; exact hdg)
    (fun vm₁ hW₁ => ⟨hf.1, hf.2, hp.2 (T.setVm vm₁) hT hW₁⟩) with ⟨v, vm₁, ⟨U', l2, c2, s2⟩, hW₁, X', ⟨g', mk, t, L, e1, e2, hq, h1, hL, h2, h3⟩, st⟩ | ⟨q, vm₁, ⟨U', l2, c2, s2⟩, hW₁, X', ⟨g', mk, t, L, E, ce, e1, e2, hq, hce, hcv, hcl, h1, hL, h2, h3⟩, st⟩
  · dsimp only [Pt.U, Pt.locs, Pt.cells, Pt.slots] at X' e1 e2 h1 h2 h3 st
    subst h1; subst h2; subst h3
    exact Or.inl ⟨v, (T.setVm vm₁).calling g' mk As.toArray, t, U', L, hT, X', hL, e1, e2, hq, st⟩
  · dsimp only [Pt.U, Pt.locs, Pt.cells, Pt.slots] at X' e1 e2 h1 h2 h3 st hcl
    subst h1; subst h2; subst h3
    exact Or.inr ⟨q, (T.setVm vm₁).calling g' mk As.toArray, t, U', L, E, ce, hT, X', hL, e1, e2, hq, hce, hcv, vx_cls hW₁ hcl, st⟩
end
end VXH
theorem vx_ofWH {l : Launch} {y : MethodName} {ws ws' : List Cond} {rm : Room} {Pc : Array Value → State → Prop} {Qc : Array Value → State → Outcome → State → Prop} {XC : String → State → State → Prop} {mc ms : Nat} {free : Addr → Prop} {cc : ByteArray} {maxL : Nat} {ret : Option FieldType} {hh : List (Nat × Nat × Nat × Nat)}
    (hy : plainName y.cls = true) (hw : ws = Cond.codeWith y cc maxL ret hh :: ws')
    (body : ∀ p e s m args below meth c s₁, BodyLoose p l y (headSpec ws rm) cc maxL ret e s m args below meth c s₁ → c.maxLocals = maxL → Pc args s →
      W p l e (headSpec ws rm).room s m args below meth c s.heap [] 0 0 (vx_MQ below Qc XC args s mc ms free) (entryFrame m args maxL)) : vx_Met l y ws rm Pc Qc XC mc ms free := by
  refine MetFree.of_bodyS (code := cc) (maxLocals := maxL) (ret := ret) hy ?_ ?_
  · intro args s m h hn
    obtain ⟨m9, meth, c, hn9, h1, h2, h3, h4, -, h5, h6, -⟩ := Cond.codeWith_spec (atoms_spec (ws := ws) h _ (by rw [hw]; exact List.mem_cons_self))
    cases hn.symm.trans hn9
    exact ⟨meth, c, h1, h2, h3, h4, h5, h6⟩
  · intro p e s m args below meth c s₁ B hml hP _
    have hh0 : s₁.heap = s.heap := by rw [B.state]; rfl
    obtain ⟨t, a1, o, b1, b2, b3⟩ := body p e s m args below meth c s₁ B hml hP s₁ hh0 (Stand.of_body B)
    exact ⟨t, o, a1, b1, b2, b3⟩
/-! ===== END ===== -/
end
section
/-! ===== BEGIN printed: names, fields, word lists, decode rows ===== -/
def RX0 : String := "ProofChecker$Grid"
def TX0 : u_T := fun k => match k with
  | 0 => ("ProofChecker$Grid", "width", "I", true)
  | 1 => ("ProofChecker$Grid", "cells", "I", true)
  | 2 => ("ProofChecker$Grid", "symbols", "I", true)
  | 3 => ("ProofChecker$Grid", "leftEdge", "I", true)
  | _ => ("ProofChecker$Grid", "rightEdge", "I", true)
def tyX0 : Nat → FieldType := fun k => match k with
  | 0 => .int
  | 1 => .int
  | 2 => .int
  | 3 => .int
  | _ => .int
abbrev wsX00 : List Cond := u_ws RX0 TX0 5
theorem nmX0 : ∀ a, a < 5 → ∀ b, b < 5 → a ≠ b → (TX0 a).2.1 ≠ (TX0 b).2.1 := by decide +kernel
theorem tyX0_ok : ∀ k, k < 5 → parseFieldDescriptor (TX0 k).2.2.1 = some (tyX0 k) := by decide +kernel
abbrev cX0_init : ByteArray := prog_2_method_1_code
def yX0_init : MethodName := ⟨RX0, "<init>", "(III)V"⟩
abbrev cX0_within : ByteArray := prog_2_method_2_code
def yX0_within : MethodName := ⟨RX0, "within", "(II)I"⟩
abbrev cX0_cells : ByteArray := prog_2_method_3_code
def yX0_cells : MethodName := ⟨RX0, "cells", "()I"⟩
abbrev cX0_symbols : ByteArray := prog_2_method_4_code
def yX0_symbols : MethodName := ⟨RX0, "symbols", "()I"⟩
abbrev cX0_allSymbols : ByteArray := prog_2_method_5_code
def yX0_allSymbols : MethodName := ⟨RX0, "allSymbols", "()I"⟩
abbrev cX0_hasCell : ByteArray := prog_2_method_6_code
def yX0_hasCell : MethodName := ⟨RX0, "hasCell", "(I)Z"⟩
abbrev cX0_hasSymbol : ByteArray := prog_2_method_7_code
def yX0_hasSymbol : MethodName := ⟨RX0, "hasSymbol", "(I)Z"⟩
abbrev cX0_hangTogether : ByteArray := prog_2_method_8_code
def yX0_hangTogether : MethodName := ⟨RX0, "hangTogether", "(I)Z"⟩
abbrev cX0_nextTo : ByteArray := prog_2_method_9_code
def yX0_nextTo : MethodName := ⟨RX0, "nextTo", "(I)I"⟩
def RX1 : String := "ProofChecker$Lines"
def TX1 : u_T := fun k => match k with
  | 0 => ("ProofChecker$Lines", "kinds", "[I", true)
  | 1 => ("ProofChecker$Lines", "numbers", "[I", true)
  | 2 => ("ProofChecker$Lines", "sizes", "[I", true)
  | 3 => ("ProofChecker$Lines", "literals", "[I", true)
  | _ => ("ProofChecker$Lines", "count", "I", false)
def tyX1 : Nat → FieldType := fun k => match k with
  | 0 => .array .int
  | 1 => .array .int
  | 2 => .array .int
  | 3 => .array .int
  | _ => .int
abbrev wsX10 : List Cond := u_ws RX1 TX1 5
theorem nmX1 : ∀ a, a < 5 → ∀ b, b < 5 → a ≠ b → (TX1 a).2.1 ≠ (TX1 b).2.1 := by decide +kernel
theorem tyX1_ok : ∀ k, k < 5 → parseFieldDescriptor (TX1 k).2.2.1 = some (tyX1 k) := by decide +kernel
abbrev cX1_init : ByteArray := prog_3_method_1_code
def yX1_init : MethodName := ⟨RX1, "<init>", "()V"⟩
abbrev cX1_literalOf : ByteArray := prog_3_method_2_code
def yX1_literalOf : MethodName := ⟨RX1, "literalOf", "(IIZ)I"⟩
abbrev cX1_cellOf : ByteArray := prog_3_method_3_code
def yX1_cellOf : MethodName := ⟨RX1, "cellOf", "(I)I"⟩
abbrev cX1_symbolOf : ByteArray := prog_3_method_4_code
def yX1_symbolOf : MethodName := ⟨RX1, "symbolOf", "(I)I"⟩
abbrev cX1_saysIs : ByteArray := prog_3_method_5_code
def yX1_saysIs : MethodName := ⟨RX1, "saysIs", "(I)Z"⟩
abbrev cX1_count : ByteArray := prog_3_method_6_code
def yX1_count : MethodName := ⟨RX1, "count", "()I"⟩
abbrev cX1_isFull : ByteArray := prog_3_method_7_code
def yX1_isFull : MethodName := ⟨RX1, "isFull", "()Z"⟩
abbrev cX1_kindOf : ByteArray := prog_3_method_8_code
def yX1_kindOf : MethodName := ⟨RX1, "kindOf", "(I)I"⟩
abbrev cX1_numberOf : ByteArray := prog_3_method_9_code
def yX1_numberOf : MethodName := ⟨RX1, "numberOf", "(I)I"⟩
abbrev cX1_sizeOf : ByteArray := prog_3_method_10_code
def yX1_sizeOf : MethodName := ⟨RX1, "sizeOf", "(I)I"⟩
abbrev cX1_literalAt : ByteArray := prog_3_method_11_code
def yX1_literalAt : MethodName := ⟨RX1, "literalAt", "(II)I"⟩
abbrev cX1_startDraft : ByteArray := prog_3_method_12_code
def yX1_startDraft : MethodName := ⟨RX1, "startDraft", "(II)V"⟩
abbrev cX1_keepDraft : ByteArray := prog_3_method_13_code
def yX1_keepDraft : MethodName := ⟨RX1, "keepDraft", "()Z"⟩
abbrev cX1_cutTo : ByteArray := prog_3_method_14_code
def yX1_cutTo : MethodName := ⟨RX1, "cutTo", "(I)V"⟩
abbrev cX1_isFullOfLiterals : ByteArray := prog_3_method_15_code
def yX1_isFullOfLiterals : MethodName := ⟨RX1, "isFullOfLiterals", "(I)Z"⟩
abbrev cX1_addLiteral : ByteArray := prog_3_method_16_code
def yX1_addLiteral : MethodName := ⟨RX1, "addLiteral", "(II)Z"⟩
def RX2 : String := "ProofChecker$Reader"
def TX2 : u_T := fun k => match k with
  | 0 => ("ProofChecker$Reader", "grid", "LProofChecker$Grid;", true)
  | 1 => ("ProofChecker$Reader", "lines", "LProofChecker$Lines;", true)
  | 2 => ("ProofChecker$Reader", "bytes", "[I", true)
  | 3 => ("ProofChecker$Reader", "count", "I", false)
  | _ => ("ProofChecker$Reader", "place", "I", false)
def tyX2 : Nat → FieldType := fun k => match k with
  | 0 => .object "ProofChecker$Grid"
  | 1 => .object "ProofChecker$Lines"
  | 2 => .array .int
  | 3 => .int
  | _ => .int
abbrev wsX20 : List Cond := u_ws RX2 TX2 5
theorem nmX2 : ∀ a, a < 5 → ∀ b, b < 5 → a ≠ b → (TX2 a).2.1 ≠ (TX2 b).2.1 := by decide +kernel
theorem tyX2_ok : ∀ k, k < 5 → parseFieldDescriptor (TX2 k).2.2.1 = some (tyX2 k) := by decide +kernel
abbrev cX2_init : ByteArray := prog_4_method_1_code
def yX2_init : MethodName := ⟨RX2, "<init>", "(LProofChecker$Grid;LProofChecker$Lines;)V"⟩
abbrev cX2_append : ByteArray := prog_4_method_2_code
def yX2_append : MethodName := ⟨RX2, "append", "(I)Z"⟩
abbrev cX2_readAll : ByteArray := prog_4_method_3_code
def yX2_readAll : MethodName := ⟨RX2, "readAll", "()I"⟩
abbrev cX2_readLine : ByteArray := prog_4_method_4_code
def yX2_readLine : MethodName := ⟨RX2, "readLine", "()Z"⟩
abbrev cX2_readHead : ByteArray := prog_4_method_5_code
def yX2_readHead : MethodName := ⟨RX2, "readHead", "()Z"⟩
abbrev cX2_readLiteral : ByteArray := prog_4_method_6_code
def yX2_readLiteral : MethodName := ⟨RX2, "readLiteral", "(I)Z"⟩
abbrev cX2_readNumberBelow : ByteArray := prog_4_method_7_code
def yX2_readNumberBelow : MethodName := ⟨RX2, "readNumberBelow", "(I)I"⟩
abbrev cX2_readNumber : ByteArray := prog_4_method_8_code
def yX2_readNumber : MethodName := ⟨RX2, "readNumber", "()I"⟩
abbrev cX2_digitHere : ByteArray := prog_4_method_9_code
def yX2_digitHere : MethodName := ⟨RX2, "digitHere", "()I"⟩
abbrev cX2_isHere : ByteArray := prog_4_method_10_code
def yX2_isHere : MethodName := ⟨RX2, "isHere", "(C)Z"⟩
def RX3 : String := "ProofChecker$Rules"
def TX3 : u_T := fun k => match k with
  | 0 => ("ProofChecker$Rules", "grid", "LProofChecker$Grid;", true)
  | 1 => ("ProofChecker$Rules", "kinds", "[I", true)
  | 2 => ("ProofChecker$Rules", "numbers", "[I", true)
  | 3 => ("ProofChecker$Rules", "sizes", "[I", true)
  | 4 => ("ProofChecker$Rules", "cells", "[I", true)
  | 5 => ("ProofChecker$Rules", "tried", "[I", true)
  | _ => ("ProofChecker$Rules", "count", "I", false)
def tyX3 : Nat → FieldType := fun k => match k with
  | 0 => .object "ProofChecker$Grid"
  | 1 => .array .int
  | 2 => .array .int
  | 3 => .array .int
  | 4 => .array .int
  | 5 => .array .int
  | _ => .int
abbrev wsX30 : List Cond := u_ws RX3 TX3 7
theorem nmX3 : ∀ a, a < 7 → ∀ b, b < 7 → a ≠ b → (TX3 a).2.1 ≠ (TX3 b).2.1 := by decide +kernel
theorem tyX3_ok : ∀ k, k < 7 → parseFieldDescriptor (TX3 k).2.2.1 = some (tyX3 k) := by decide +kernel
abbrev cX3_init : ByteArray := prog_5_method_1_code
def yX3_init : MethodName := ⟨RX3, "<init>", "(LProofChecker$Grid;)V"⟩
abbrev cX3_count : ByteArray := prog_5_method_2_code
def yX3_count : MethodName := ⟨RX3, "count", "()I"⟩
abbrev cX3_has : ByteArray := prog_5_method_3_code
def yX3_has : MethodName := ⟨RX3, "has", "(I)Z"⟩
abbrev cX3_append : ByteArray := prog_5_method_4_code
def yX3_append : MethodName := ⟨RX3, "append", "(II)I"⟩
abbrev cX3_addCell : ByteArray := prog_5_method_5_code
def yX3_addCell : MethodName := ⟨RX3, "addCell", "(II)Z"⟩
abbrev cX3_cellAt : ByteArray := prog_5_method_6_code
def yX3_cellAt : MethodName := ⟨RX3, "cellAt", "(II)I"⟩
abbrev cX3_allSaid : ByteArray := prog_5_method_7_code
def yX3_allSaid : MethodName := ⟨RX3, "allSaid", "(I[I)Z"⟩
abbrev cX3_meets : ByteArray := prog_5_method_8_code
def yX3_meets : MethodName := ⟨RX3, "meets", "(I[I)Z"⟩
abbrev cX3_areUnlike : ByteArray := prog_5_method_9_code
def yX3_areUnlike : MethodName := ⟨RX3, "areUnlike", "(I[I)Z"⟩
abbrev cX3_sum : ByteArray := prog_5_method_10_code
def yX3_sum : MethodName := ⟨RX3, "sum", "(I[I)I"⟩
abbrev cX3_rise : ByteArray := prog_5_method_11_code
def yX3_rise : MethodName := ⟨RX3, "rise", "(I[I)Z"⟩
abbrev cX3_likeTheFirst : ByteArray := prog_5_method_12_code
def yX3_likeTheFirst : MethodName := ⟨RX3, "likeTheFirst", "(I[I)I"⟩
abbrev cX3_cellsWithOne : ByteArray := prog_5_method_13_code
def yX3_cellsWithOne : MethodName := ⟨RX3, "cellsWithOne", "(I[I)I"⟩
abbrev cX3_canBeTried : ByteArray := prog_5_method_14_code
def yX3_canBeTried : MethodName := ⟨RX3, "canBeTried", "(I)Z"⟩
abbrev cX3_canBeMet : ByteArray := prog_5_method_15_code
def yX3_canBeMet : MethodName := ⟨RX3, "canBeMet", "(ILProofChecker$Units;I)Z"⟩
def RX4 : String := "ProofChecker$Units"
def TX4 : u_T := fun k => match k with
  | 0 => ("ProofChecker$Units", "grid", "LProofChecker$Grid;", true)
  | 1 => ("ProofChecker$Units", "lines", "LProofChecker$Lines;", true)
  | 2 => ("ProofChecker$Units", "symbols", "[I", true)
  | _ => ("ProofChecker$Units", "beforeSplit", "[I", true)
def tyX4 : Nat → FieldType := fun k => match k with
  | 0 => .object "ProofChecker$Grid"
  | 1 => .object "ProofChecker$Lines"
  | 2 => .array .int
  | _ => .array .int
abbrev wsX40 : List Cond := u_ws RX4 TX4 4
theorem nmX4 : ∀ a, a < 4 → ∀ b, b < 4 → a ≠ b → (TX4 a).2.1 ≠ (TX4 b).2.1 := by decide +kernel
theorem tyX4_ok : ∀ k, k < 4 → parseFieldDescriptor (TX4 k).2.2.1 = some (tyX4 k) := by decide +kernel
abbrev cX4_init : ByteArray := prog_6_method_1_code
def yX4_init : MethodName := ⟨RX4, "<init>", "(LProofChecker$Grid;LProofChecker$Lines;)V"⟩
abbrev cX4_symbolsOf : ByteArray := prog_6_method_2_code
def yX4_symbolsOf : MethodName := ⟨RX4, "symbolsOf", "(I)I"⟩
abbrev cX4_startWhole : ByteArray := prog_6_method_3_code
def yX4_startWhole : MethodName := ⟨RX4, "startWhole", "()V"⟩
abbrev cX4_turnRound : ByteArray := prog_6_method_4_code
def yX4_turnRound : MethodName := ⟨RX4, "turnRound", "(I)V"⟩
abbrev cX4_narrow : ByteArray := prog_6_method_5_code
def yX4_narrow : MethodName := ⟨RX4, "narrow", "(IZ)V"⟩
abbrev cX4_refute : ByteArray := prog_6_method_6_code
def yX4_refute : MethodName := ⟨RX4, "refute", "(I)Z"⟩
abbrev cX4_refuteBySplit : ByteArray := prog_6_method_7_code
def yX4_refuteBySplit : MethodName := ⟨RX4, "refuteBySplit", "(II)Z"⟩
abbrev cX4_comeToNothing : ByteArray := prog_6_method_8_code
def yX4_comeToNothing : MethodName := ⟨RX4, "comeToNothing", "(I)Z"⟩
abbrev cX4_someCellMayBeNothing : ByteArray := prog_6_method_9_code
def yX4_someCellMayBeNothing : MethodName := ⟨RX4, "someCellMayBeNothing", "()Z"⟩
abbrev cX4_stepBy : ByteArray := prog_6_method_10_code
def yX4_stepBy : MethodName := ⟨RX4, "stepBy", "(I)I"⟩
abbrev cX4_stateOf : ByteArray := prog_6_method_11_code
def yX4_stateOf : MethodName := ⟨RX4, "stateOf", "(I)I"⟩
def RX5 : String := "ProofChecker"
def TX5 : u_T := fun k => match k with
  | 0 => ("ProofChecker", "grid", "LProofChecker$Grid;", true)
  | 1 => ("ProofChecker", "rules", "LProofChecker$Rules;", true)
  | 2 => ("ProofChecker", "lines", "LProofChecker$Lines;", true)
  | 3 => ("ProofChecker", "units", "LProofChecker$Units;", true)
  | 4 => ("ProofChecker", "reader", "LProofChecker$Reader;", true)
  | _ => ("ProofChecker", "said", "[I", true)
def tyX5 : Nat → FieldType := fun k => match k with
  | 0 => .object "ProofChecker$Grid"
  | 1 => .object "ProofChecker$Rules"
  | 2 => .object "ProofChecker$Lines"
  | 3 => .object "ProofChecker$Units"
  | 4 => .object "ProofChecker$Reader"
  | _ => .array .int
abbrev wsX50 : List Cond := u_ws RX5 TX5 6
theorem nmX5 : ∀ a, a < 6 → ∀ b, b < 6 → a ≠ b → (TX5 a).2.1 ≠ (TX5 b).2.1 := by decide +kernel
theorem tyX5_ok : ∀ k, k < 6 → parseFieldDescriptor (TX5 k).2.2.1 = some (tyX5 k) := by decide +kernel
abbrev cX5_init : ByteArray := prog_1_method_1_code
def yX5_init : MethodName := ⟨RX5, "<init>", "(III)V"⟩
abbrev cX5_rule : ByteArray := prog_1_method_2_code
def yX5_rule : MethodName := ⟨RX5, "rule", "(II)I"⟩
abbrev cX5_into : ByteArray := prog_1_method_3_code
def yX5_into : MethodName := ⟨RX5, "into", "(II)Z"⟩
abbrev cX5_answer : ByteArray := prog_1_method_4_code
def yX5_answer : MethodName := ⟨RX5, "answer", "(II)Z"⟩
abbrev cX5_test : ByteArray := prog_1_method_5_code
def yX5_test : MethodName := ⟨RX5, "test", "(I)I"⟩
abbrev cX5_fails : ByteArray := prog_1_method_6_code
def yX5_fails : MethodName := ⟨RX5, "fails", "()I"⟩
abbrev cX5_line : ByteArray := prog_1_method_7_code
def yX5_line : MethodName := ⟨RX5, "line", "(II)I"⟩
abbrev cX5_literal : ByteArray := prog_1_method_8_code
def yX5_literal : MethodName := ⟨RX5, "literal", "(IIZ)Z"⟩
abbrev cX5_drop : ByteArray := prog_1_method_9_code
def yX5_drop : MethodName := ⟨RX5, "drop", "()Z"⟩
abbrev cX5_check : ByteArray := prog_1_method_10_code
def yX5_check : MethodName := ⟨RX5, "check", "()I"⟩
abbrev cX5_proves : ByteArray := prog_1_method_11_code
def yX5_proves : MethodName := ⟨RX5, "proves", "()I"⟩
abbrev cX5_tell : ByteArray := prog_1_method_12_code
def yX5_tell : MethodName := ⟨RX5, "tell", "(II)I"⟩
abbrev cX5_may : ByteArray := prog_1_method_13_code
def yX5_may : MethodName := ⟨RX5, "may", "(I)I"⟩
abbrev cX5_unit : ByteArray := prog_1_method_14_code
def yX5_unit : MethodName := ⟨RX5, "unit", "(I)Z"⟩
abbrev cX5_read : ByteArray := prog_1_method_15_code
def yX5_read : MethodName := ⟨RX5, "read", "()I"⟩
abbrev cX5_needRule : ByteArray := prog_1_method_16_code
def yX5_needRule : MethodName := ⟨RX5, "needRule", "(I)V"⟩
abbrev cX5_needCell : ByteArray := prog_1_method_17_code
def yX5_needCell : MethodName := ⟨RX5, "needCell", "(I)V"⟩
abbrev cX5_needSymbol : ByteArray := prog_1_method_18_code
def yX5_needSymbol : MethodName := ⟨RX5, "needSymbol", "(I)V"⟩
abbrev cX5_toldLiteral : ByteArray := prog_1_method_19_code
def yX5_toldLiteral : MethodName := ⟨RX5, "toldLiteral", "(II)I"⟩
abbrev cX5_followsFromLinesAhead : ByteArray := prog_1_method_20_code
def yX5_followsFromLinesAhead : MethodName := ⟨RX5, "followsFromLinesAhead", "(I)Z"⟩
abbrev cX5_isByRule : ByteArray := prog_1_method_21_code
def yX5_isByRule : MethodName := ⟨RX5, "isByRule", "(II)Z"⟩
abbrev cX5_isBarred : ByteArray := prog_1_method_22_code
def yX5_isBarred : MethodName := ⟨RX5, "isBarred", "(I)Z"⟩
abbrev cX5_deniesOnlyWhatIsSaid : ByteArray := prog_1_method_23_code
def yX5_deniesOnlyWhatIsSaid : MethodName := ⟨RX5, "deniesOnlyWhatIsSaid", "(I)Z"⟩
def RX6 : String := "ProofCheckerModel"
def TX6 : u_T := fun k => match k with
  | 0 => ("ProofCheckerModel", "thrown", "I", false)
  | 1 => ("ProofCheckerModel", "width", "I", true)
  | 2 => ("ProofCheckerModel", "height", "I", true)
  | 3 => ("ProofCheckerModel", "symbols", "I", true)
  | 4 => ("ProofCheckerModel", "rules", "I", false)
  | 5 => ("ProofCheckerModel", "ruleKind", "[I", true)
  | 6 => ("ProofCheckerModel", "ruleNumber", "[I", true)
  | 7 => ("ProofCheckerModel", "ruleSize", "[I", true)
  | 8 => ("ProofCheckerModel", "ruleCell", "[I", true)
  | 9 => ("ProofCheckerModel", "answer", "[I", true)
  | 10 => ("ProofCheckerModel", "lines", "I", false)
  | 11 => ("ProofCheckerModel", "lineKind", "[I", true)
  | 12 => ("ProofCheckerModel", "lineNumber", "[I", true)
  | 13 => ("ProofCheckerModel", "lineSize", "[I", true)
  | 14 => ("ProofCheckerModel", "literal", "[I", true)
  | 15 => ("ProofCheckerModel", "may", "[I", true)
  | 16 => ("ProofCheckerModel", "kept", "[I", true)
  | 17 => ("ProofCheckerModel", "cannot", "Z", false)
  | 18 => ("ProofCheckerModel", "fill", "[I", true)
  | 19 => ("ProofCheckerModel", "text", "[I", true)
  | 20 => ("ProofCheckerModel", "size", "I", false)
  | 21 => ("ProofCheckerModel", "at", "I", false)
  | _ => ("ProofCheckerModel", "bad", "I", false)
def tyX6 : Nat → FieldType := fun k => match k with
  | 0 => .int
  | 1 => .int
  | 2 => .int
  | 3 => .int
  | 4 => .int
  | 5 => .array .int
  | 6 => .array .int
  | 7 => .array .int
  | 8 => .array .int
  | 9 => .array .int
  | 10 => .int
  | 11 => .array .int
  | 12 => .array .int
  | 13 => .array .int
  | 14 => .array .int
  | 15 => .array .int
  | 16 => .array .int
  | 17 => .boolean
  | 18 => .array .int
  | 19 => .array .int
  | 20 => .int
  | 21 => .int
  | _ => .int
abbrev wsX60 : List Cond := u_ws RX6 TX6 23
theorem nmX6 : ∀ a, a < 23 → ∀ b, b < 23 → a ≠ b → (TX6 a).2.1 ≠ (TX6 b).2.1 := by decide +kernel
theorem tyX6_ok : ∀ k, k < 23 → parseFieldDescriptor (TX6 k).2.2.1 = some (tyX6 k) := by decide +kernel
abbrev cX6_init : ByteArray := prog_8_method_1_code
def yX6_init : MethodName := ⟨RX6, "<init>", "(III)V"⟩
abbrev cX6_thrown : ByteArray := prog_8_method_2_code
def yX6_thrown : MethodName := ⟨RX6, "thrown", "()I"⟩
abbrev cX6_throwsIf : ByteArray := prog_8_method_3_code
def yX6_throwsIf : MethodName := ⟨RX6, "throwsIf", "(IZ)Z"⟩
abbrev cX6_held : ByteArray := prog_8_method_4_code
def yX6_held : MethodName := ⟨RX6, "held", "(II)I"⟩
abbrev cX6_cells : ByteArray := prog_8_method_5_code
def yX6_cells : MethodName := ⟨RX6, "cells", "()I"⟩
abbrev cX6_isCell : ByteArray := prog_8_method_6_code
def yX6_isCell : MethodName := ⟨RX6, "isCell", "(I)Z"⟩
abbrev cX6_isSymbol : ByteArray := prog_8_method_7_code
def yX6_isSymbol : MethodName := ⟨RX6, "isSymbol", "(I)Z"⟩
abbrev cX6_rule : ByteArray := prog_8_method_8_code
def yX6_rule : MethodName := ⟨RX6, "rule", "(II)I"⟩
abbrev cX6_member : ByteArray := prog_8_method_9_code
def yX6_member : MethodName := ⟨RX6, "member", "(II)I"⟩
abbrev cX6_seat : ByteArray := prog_8_method_10_code
def yX6_seat : MethodName := ⟨RX6, "seat", "(II)I"⟩
abbrev cX6_into : ByteArray := prog_8_method_11_code
def yX6_into : MethodName := ⟨RX6, "into", "(II)Z"⟩
abbrev cX6_answer : ByteArray := prog_8_method_12_code
def yX6_answer : MethodName := ⟨RX6, "answer", "(II)Z"⟩
abbrev cX6_isNext : ByteArray := prog_8_method_13_code
def yX6_isNext : MethodName := ⟨RX6, "isNext", "(II)Z"⟩
abbrev cX6_hangs : ByteArray := prog_8_method_14_code
def yX6_hangs : MethodName := ⟨RX6, "hangs", "(I)Z"⟩
abbrev cX6_meets : ByteArray := prog_8_method_15_code
def yX6_meets : MethodName := ⟨RX6, "meets", "(I)Z"⟩
abbrev cX6_testRule : ByteArray := prog_8_method_16_code
def yX6_testRule : MethodName := ⟨RX6, "testRule", "(I)I"⟩
abbrev cX6_test : ByteArray := prog_8_method_17_code
def yX6_test : MethodName := ⟨RX6, "test", "(I)I"⟩
abbrev cX6_firstFailing : ByteArray := prog_8_method_18_code
def yX6_firstFailing : MethodName := ⟨RX6, "firstFailing", "()I"⟩
abbrev cX6_fails : ByteArray := prog_8_method_19_code
def yX6_fails : MethodName := ⟨RX6, "fails", "()I"⟩
abbrev cX6_line : ByteArray := prog_8_method_20_code
def yX6_line : MethodName := ⟨RX6, "line", "(II)I"⟩
abbrev cX6_begin : ByteArray := prog_8_method_21_code
def yX6_begin : MethodName := ⟨RX6, "begin", "(III)V"⟩
abbrev cX6_has : ByteArray := prog_8_method_22_code
def yX6_has : MethodName := ⟨RX6, "has", "(II)Z"⟩
abbrev cX6_literalOf : ByteArray := prog_8_method_23_code
def yX6_literalOf : MethodName := ⟨RX6, "literalOf", "(IIZ)I"⟩
abbrev cX6_add : ByteArray := prog_8_method_24_code
def yX6_add : MethodName := ⟨RX6, "add", "(II)V"⟩
abbrev cX6_literal : ByteArray := prog_8_method_25_code
def yX6_literal : MethodName := ⟨RX6, "literal", "(IIZ)Z"⟩
abbrev cX6_drop : ByteArray := prog_8_method_26_code
def yX6_drop : MethodName := ⟨RX6, "drop", "()Z"⟩
abbrev cX6_cellOf : ByteArray := prog_8_method_27_code
def yX6_cellOf : MethodName := ⟨RX6, "cellOf", "(I)I"⟩
abbrev cX6_symbolOf : ByteArray := prog_8_method_28_code
def yX6_symbolOf : MethodName := ⟨RX6, "symbolOf", "(I)I"⟩
abbrev cX6_isFilled : ByteArray := prog_8_method_29_code
def yX6_isFilled : MethodName := ⟨RX6, "isFilled", "(II)Z"⟩
abbrev cX6_byRule : ByteArray := prog_8_method_30_code
def yX6_byRule : MethodName := ⟨RX6, "byRule", "(I)Z"⟩
abbrev cX6_all : ByteArray := prog_8_method_31_code
def yX6_all : MethodName := ⟨RX6, "all", "()V"⟩
abbrev cX6_make : ByteArray := prog_8_method_32_code
def yX6_make : MethodName := ⟨RX6, "make", "(I)V"⟩
abbrev cX6_how : ByteArray := prog_8_method_33_code
def yX6_how : MethodName := ⟨RX6, "how", "(I)I"⟩
abbrev cX6_units : ByteArray := prog_8_method_34_code
def yX6_units : MethodName := ⟨RX6, "units", "(I)V"⟩
abbrev cX6_turned : ByteArray := prog_8_method_35_code
def yX6_turned : MethodName := ⟨RX6, "turned", "(I)V"⟩
abbrev cX6_bySplit : ByteArray := prog_8_method_36_code
def yX6_bySplit : MethodName := ⟨RX6, "bySplit", "(I)Z"⟩
abbrev cX6_isBarred : ByteArray := prog_8_method_37_code
def yX6_isBarred : MethodName := ⟨RX6, "isBarred", "(I)Z"⟩
abbrev cX6_isRight : ByteArray := prog_8_method_38_code
def yX6_isRight : MethodName := ⟨RX6, "isRight", "(I)Z"⟩
abbrev cX6_right : ByteArray := prog_8_method_39_code
def yX6_right : MethodName := ⟨RX6, "right", "()I"⟩
abbrev cX6_check : ByteArray := prog_8_method_40_code
def yX6_check : MethodName := ⟨RX6, "check", "()I"⟩
abbrev cX6_proves : ByteArray := prog_8_method_41_code
def yX6_proves : MethodName := ⟨RX6, "proves", "()I"⟩
abbrev cX6_tell : ByteArray := prog_8_method_42_code
def yX6_tell : MethodName := ⟨RX6, "tell", "(II)I"⟩
abbrev cX6_may : ByteArray := prog_8_method_43_code
def yX6_may : MethodName := ⟨RX6, "may", "(I)I"⟩
abbrev cX6_unit : ByteArray := prog_8_method_44_code
def yX6_unit : MethodName := ⟨RX6, "unit", "(I)Z"⟩
abbrev cX6_look : ByteArray := prog_8_method_45_code
def yX6_look : MethodName := ⟨RX6, "look", "()I"⟩
abbrev cX6_isDigit : ByteArray := prog_8_method_46_code
def yX6_isDigit : MethodName := ⟨RX6, "isDigit", "()Z"⟩
abbrev cX6_wrong : ByteArray := prog_8_method_47_code
def yX6_wrong : MethodName := ⟨RX6, "wrong", "(I)V"⟩
abbrev cX6_number : ByteArray := prog_8_method_48_code
def yX6_number : MethodName := ⟨RX6, "number", "()I"⟩
abbrev cX6_expect : ByteArray := prog_8_method_49_code
def yX6_expect : MethodName := ⟨RX6, "expect", "(I)V"⟩
abbrev cX6_readLiteral : ByteArray := prog_8_method_50_code
def yX6_readLiteral : MethodName := ⟨RX6, "readLiteral", "(I)V"⟩
abbrev cX6_readLine : ByteArray := prog_8_method_51_code
def yX6_readLine : MethodName := ⟨RX6, "readLine", "(II)V"⟩
abbrev cX6_read : ByteArray := prog_8_method_52_code
def yX6_read : MethodName := ⟨RX6, "read", "()I"⟩
def RJx00060 : String := "java/lang/ArrayIndexOutOfBoundsException"
def TJx00060 : u_T := fun k => match k with
  | 0 => ("java/lang/Throwable", "cause", "Ljava/lang/Throwable;", false)
  | 1 => ("java/lang/Throwable", "stackTrace", "[Ljava/lang/StackTraceElement;", false)
  | 2 => ("java/lang/Throwable", "suppressedExceptions", "Ljava/util/List;", false)
  | 3 => ("java/lang/Throwable", "detailMessage", "Ljava/lang/String;", false)
  | 4 => ("java/lang/Throwable", "backtrace", "Ljava/lang/Object;", false)
  | _ => ("java/lang/Throwable", "depth", "I", false)
def tyJx00060 : Nat → FieldType := fun k => match k with
  | 0 => .object "java/lang/Throwable"
  | 1 => .array (.object "java/lang/StackTraceElement")
  | 2 => .object "java/util/List"
  | 3 => .object "java/lang/String"
  | 4 => .object "java/lang/Object"
  | _ => .int
abbrev wsJx000600 : List Cond := u_ws RJx00060 TJx00060 6
theorem nmJx00060 : ∀ a, a < 6 → ∀ b, b < 6 → a ≠ b → (TJx00060 a).2.1 ≠ (TJx00060 b).2.1 := by decide +kernel
theorem tyJx00060_ok : ∀ k, k < 6 → parseFieldDescriptor (TJx00060 k).2.2.1 = some (tyJx00060 k) := by decide +kernel
abbrev cJx00060_init_a7421 : ByteArray := prog_9_method_2_code
def yJx00060_init_a7421 : MethodName := ⟨RJx00060, "<init>", "(Ljava/lang/String;)V"⟩
def RJ9 : String := "java/lang/Math"
def TJ9 : u_T := fun k => match k with
  | _ => ("", "", "", false)
def tyJ9 : Nat → FieldType := fun k => match k with
  | _ => .int
abbrev wsJ90 : List Cond := u_ws RJ9 TJ9 0
theorem nmJ9 : ∀ a, a < 0 → ∀ b, b < 0 → a ≠ b → (TJ9 a).2.1 ≠ (TJ9 b).2.1 := by decide +kernel
theorem tyJ9_ok : ∀ k, k < 0 → parseFieldDescriptor (TJ9 k).2.2.1 = some (tyJ9 k) := by decide +kernel
abbrev cJ9_max_7cf53 : ByteArray := prog_13_method_65_code
def yJ9_max_7cf53 : MethodName := ⟨RJ9, "max", "(II)I"⟩
abbrev cJ9_min_7cf53 : ByteArray := prog_13_method_69_code
def yJ9_min_7cf53 : MethodName := ⟨RJ9, "min", "(II)I"⟩
def RJ0 : String := "java/lang/String"
def TJ0 : u_T := fun k => match k with
  | _ => ("", "", "", false)
def tyJ0 : Nat → FieldType := fun k => match k with
  | _ => .int
abbrev wsJ00 : List Cond := u_ws RJ0 TJ0 0
theorem nmJ0 : ∀ a, a < 0 → ∀ b, b < 0 → a ≠ b → (TJ0 a).2.1 ≠ (TJ0 b).2.1 := by decide +kernel
theorem tyJ0_ok : ∀ k, k < 0 → parseFieldDescriptor (TJ0 k).2.2.1 = some (tyJ0 k) := by decide +kernel
def RJ10 : String := "java/lang/System"
def TJ10 : u_T := fun k => match k with
  | _ => ("", "", "", false)
def tyJ10 : Nat → FieldType := fun k => match k with
  | _ => .int
abbrev wsJ100 : List Cond := u_ws RJ10 TJ10 0
theorem nmJ10 : ∀ a, a < 0 → ∀ b, b < 0 → a ≠ b → (TJ10 a).2.1 ≠ (TJ10 b).2.1 := by decide +kernel
theorem tyJ10_ok : ∀ k, k < 0 → parseFieldDescriptor (TJ10 k).2.2.1 = some (tyJ10 k) := by decide +kernel
def RL : String := "ProofCheckerLaw"
abbrev cL_cell : ByteArray := method_2_code
def yL_cell : MethodName := ⟨RL, "cell", "([II)I"⟩
abbrev cL_into : ByteArray := method_3_code
def yL_into : MethodName := ⟨RL, "into", "(LProofChecker;II[J)I"⟩
abbrev cL_answer : ByteArray := method_4_code
def yL_answer : MethodName := ⟨RL, "answer", "(LProofChecker;II[J)I"⟩
abbrev cL_test : ByteArray := method_5_code
def yL_test : MethodName := ⟨RL, "test", "(LProofChecker;I[J)I"⟩
abbrev cL_literal : ByteArray := method_6_code
def yL_literal : MethodName := ⟨RL, "literal", "(LProofChecker;IIZ[J)I"⟩
abbrev cL_tell : ByteArray := method_7_code
def yL_tell : MethodName := ⟨RL, "tell", "(LProofChecker;II[J)I"⟩
abbrev cL_may : ByteArray := method_8_code
def yL_may : MethodName := ⟨RL, "may", "(LProofChecker;I[J)I"⟩
abbrev cL_law : ByteArray := code
def yL_law : MethodName := ⟨RL, "law", "([I)Z"⟩
def wsX0_within : List Cond := .code yX0_within cX0_within 2 (some .int) :: ([.methodLink RX0 29 Lib.Math.min.name, .static Lib.Math.min.name, .initialized "java/lang/Math", .code Lib.Math.min.name Lib.Math.min.code 2 (some .int), .methodLink RX0 34 Lib.Math.max.name, .static Lib.Math.max.name, .code Lib.Math.max.name Lib.Math.max.code 2 (some .int)])
def wsX0_init : List Cond := .code yX0_init cX0_init 6 none :: ([.methodLink RX0 1 objectInit, .instanceMethod objectInit, .code objectInit ⟨#[0xb1]⟩ 1 none, .fieldLink RX0 13 "ProofChecker$Grid" "width" "I", .fieldLink RX0 17 "ProofChecker$Grid" "cells" "I", .fieldLink RX0 20 "ProofChecker$Grid" "symbols" "I", .fieldLink RX0 23 "ProofChecker$Grid" "leftEdge" "I", .fieldLink RX0 26 "ProofChecker$Grid" "rightEdge" "I", .methodLink RX0 9 yX0_within, .static yX0_within, .initialized RX0, .code yX0_within cX0_within 2 (some .int), .methodLink RX0 29 Lib.Math.min.name, .static Lib.Math.min.name, .initialized "java/lang/Math", .code Lib.Math.min.name Lib.Math.min.code 2 (some .int), .methodLink RX0 34 Lib.Math.max.name, .static Lib.Math.max.name, .code Lib.Math.max.name Lib.Math.max.code 2 (some .int)] ++ wsX00)
def wsX0_cells : List Cond := .code yX0_cells cX0_cells 1 (some .int) :: ([.fieldLink RX0 17 "ProofChecker$Grid" "cells" "I"] ++ wsX00)
def wsX0_symbols : List Cond := .code yX0_symbols cX0_symbols 1 (some .int) :: ([.fieldLink RX0 20 "ProofChecker$Grid" "symbols" "I"] ++ wsX00)
def wsX0_allSymbols : List Cond := .code yX0_allSymbols cX0_allSymbols 1 (some .int) :: ([.fieldLink RX0 20 "ProofChecker$Grid" "symbols" "I"] ++ wsX00)
def wsX0_hasCell : List Cond := .code yX0_hasCell cX0_hasCell 2 (some .boolean) :: ([.fieldLink RX0 17 "ProofChecker$Grid" "cells" "I"] ++ wsX00)
def wsX0_hasSymbol : List Cond := .code yX0_hasSymbol cX0_hasSymbol 2 (some .boolean) :: ([.fieldLink RX0 20 "ProofChecker$Grid" "symbols" "I"] ++ wsX00)
def wsX0_nextTo : List Cond := .code yX0_nextTo cX0_nextTo 5 (some .int) :: ([.fieldLink RX0 13 "ProofChecker$Grid" "width" "I", .fieldLink RX0 23 "ProofChecker$Grid" "leftEdge" "I", .fieldLink RX0 26 "ProofChecker$Grid" "rightEdge" "I"] ++ wsX00)
def wsX0_hangTogether : List Cond := .code yX0_hangTogether cX0_hangTogether 4 (some .boolean) :: ([.fieldLink RX0 17 "ProofChecker$Grid" "cells" "I", .methodLink RX0 37 yX0_nextTo, .instanceMethod yX0_nextTo, .selects RX0 yX0_nextTo yX0_nextTo, .initialized RX0, .code yX0_nextTo cX0_nextTo 5 (some .int), .fieldLink RX0 13 "ProofChecker$Grid" "width" "I", .fieldLink RX0 23 "ProofChecker$Grid" "leftEdge" "I", .fieldLink RX0 26 "ProofChecker$Grid" "rightEdge" "I"] ++ wsX00)
def wsX1_init : List Cond := .code yX1_init cX1_init 1 none :: ([.methodLink RX1 1 objectInit, .instanceMethod objectInit, .code objectInit ⟨#[0xb1]⟩ 1 none, .arrayClass .int, .fieldLink RX1 9 "ProofChecker$Lines" "kinds" "[I", .fieldLink RX1 13 "ProofChecker$Lines" "numbers" "[I", .fieldLink RX1 16 "ProofChecker$Lines" "sizes" "[I", .fieldLink RX1 19 "ProofChecker$Lines" "literals" "[I", .fieldLink RX1 22 "ProofChecker$Lines" "count" "I"] ++ wsX10)
def wsX1_literalOf : List Cond := .code yX1_literalOf cX1_literalOf 3 (some .int) :: ([])
def wsX1_cellOf : List Cond := .code yX1_cellOf cX1_cellOf 1 (some .int) :: ([])
def wsX1_symbolOf : List Cond := .code yX1_symbolOf cX1_symbolOf 1 (some .int) :: ([])
def wsX1_saysIs : List Cond := .code yX1_saysIs cX1_saysIs 1 (some .boolean) :: ([])
def wsX1_count : List Cond := .code yX1_count cX1_count 1 (some .int) :: ([.fieldLink RX1 22 "ProofChecker$Lines" "count" "I"] ++ wsX10)
def wsX1_isFull : List Cond := .code yX1_isFull cX1_isFull 1 (some .boolean) :: ([.fieldLink RX1 22 "ProofChecker$Lines" "count" "I"] ++ wsX10)
def wsX1_kindOf : List Cond := .code yX1_kindOf cX1_kindOf 2 (some .int) :: ([.fieldLink RX1 9 "ProofChecker$Lines" "kinds" "[I"] ++ wsX10)
def wsX1_numberOf : List Cond := .code yX1_numberOf cX1_numberOf 2 (some .int) :: ([.fieldLink RX1 13 "ProofChecker$Lines" "numbers" "[I"] ++ wsX10)
def wsX1_sizeOf : List Cond := .code yX1_sizeOf cX1_sizeOf 2 (some .int) :: ([.fieldLink RX1 16 "ProofChecker$Lines" "sizes" "[I"] ++ wsX10)
def wsX1_literalAt : List Cond := .code yX1_literalAt cX1_literalAt 3 (some .int) :: ([.fieldLink RX1 19 "ProofChecker$Lines" "literals" "[I"] ++ wsX10)
def wsX1_startDraft : List Cond := .code yX1_startDraft cX1_startDraft 3 none :: ([.fieldLink RX1 9 "ProofChecker$Lines" "kinds" "[I", .fieldLink RX1 22 "ProofChecker$Lines" "count" "I", .fieldLink RX1 13 "ProofChecker$Lines" "numbers" "[I", .fieldLink RX1 16 "ProofChecker$Lines" "sizes" "[I"] ++ wsX10)
def wsX1_keepDraft : List Cond := .code yX1_keepDraft cX1_keepDraft 1 (some .boolean) :: ([.fieldLink RX1 22 "ProofChecker$Lines" "count" "I", .methodLink RX1 26 yX1_isFull, .instanceMethod yX1_isFull, .selects RX1 yX1_isFull yX1_isFull, .initialized RX1, .code yX1_isFull cX1_isFull 1 (some .boolean)] ++ wsX10)
def wsX1_cutTo : List Cond := .code yX1_cutTo cX1_cutTo 2 none :: ([.fieldLink RX1 22 "ProofChecker$Lines" "count" "I"] ++ wsX10)
def wsX1_isFullOfLiterals : List Cond := .code yX1_isFullOfLiterals cX1_isFullOfLiterals 2 (some .boolean) :: ([.fieldLink RX1 16 "ProofChecker$Lines" "sizes" "[I"] ++ wsX10)
def wsX1_addLiteral : List Cond := .code yX1_addLiteral cX1_addLiteral 5 (some .boolean) :: ([.fieldLink RX1 16 "ProofChecker$Lines" "sizes" "[I", .fieldLink RX1 19 "ProofChecker$Lines" "literals" "[I", .methodLink RX1 30 yX1_isFullOfLiterals, .instanceMethod yX1_isFullOfLiterals, .selects RX1 yX1_isFullOfLiterals yX1_isFullOfLiterals, .initialized RX1, .code yX1_isFullOfLiterals cX1_isFullOfLiterals 2 (some .boolean), .methodLink RX1 34 yX1_literalAt, .instanceMethod yX1_literalAt, .selects RX1 yX1_literalAt yX1_literalAt, .code yX1_literalAt cX1_literalAt 3 (some .int)] ++ wsX10)
def wsX2_init : List Cond := .code yX2_init cX2_init 3 none :: ([.methodLink RX2 3 objectInit, .instanceMethod objectInit, .code objectInit ⟨#[0xb1]⟩ 1 none, .arrayClass .int, .fieldLink RX2 11 "ProofChecker$Reader" "bytes" "[I", .fieldLink RX2 15 "ProofChecker$Reader" "count" "I", .fieldLink RX2 19 "ProofChecker$Reader" "place" "I", .fieldLink RX2 22 "ProofChecker$Reader" "grid" "LProofChecker$Grid;", .fieldLink RX2 26 "ProofChecker$Reader" "lines" "LProofChecker$Lines;"] ++ wsX20)
def wsX2_append : List Cond := .code yX2_append cX2_append 2 (some .boolean) :: ([.fieldLink RX2 15 "ProofChecker$Reader" "count" "I", .fieldLink RX2 11 "ProofChecker$Reader" "bytes" "[I"] ++ wsX20)
def wsX2_isHere : List Cond := .code yX2_isHere cX2_isHere 2 (some .boolean) :: ([.fieldLink RX2 19 "ProofChecker$Reader" "place" "I", .fieldLink RX2 15 "ProofChecker$Reader" "count" "I", .fieldLink RX2 11 "ProofChecker$Reader" "bytes" "[I"] ++ wsX20)
def wsX2_digitHere : List Cond := .code yX2_digitHere cX2_digitHere 1 (some .int) :: ([.fieldLink RX2 19 "ProofChecker$Reader" "place" "I", .fieldLink RX2 15 "ProofChecker$Reader" "count" "I", .fieldLink RX2 11 "ProofChecker$Reader" "bytes" "[I"] ++ wsX20)
def wsX2_readNumber : List Cond := .code yX2_readNumber cX2_readNumber 3 (some .int) :: ([.fieldLink RX2 19 "ProofChecker$Reader" "place" "I", .methodLink RX2 87 yX2_digitHere, .instanceMethod yX2_digitHere, .selects RX2 yX2_digitHere yX2_digitHere, .initialized RX2, .code yX2_digitHere cX2_digitHere 1 (some .int), .fieldLink RX2 15 "ProofChecker$Reader" "count" "I", .fieldLink RX2 11 "ProofChecker$Reader" "bytes" "[I"] ++ wsX20)
def wsX2_readHead_r1 : List Cond := [Cond.fieldLink RX2 26 "ProofChecker$Reader" "lines" "LProofChecker$Lines;", Cond.fieldLink RX2 19 "ProofChecker$Reader" "place" "I", Cond.methodLink RX2 46 yX2_isHere, Cond.instanceMethod yX2_isHere, Cond.selects RX2 yX2_isHere yX2_isHere, Cond.initialized RX2, Cond.code yX2_isHere cX2_isHere 2 (some .boolean), Cond.fieldLink RX2 15 "ProofChecker$Reader" "count" "I", Cond.fieldLink RX2 11 "ProofChecker$Reader" "bytes" "[I", Cond.methodLink RX2 60 yX1_startDraft, Cond.instanceMethod yX1_startDraft, Cond.selects RX1 yX1_startDraft yX1_startDraft, Cond.initialized RX1, Cond.code yX1_startDraft cX1_startDraft 3 none, Cond.fieldLink RX1 9 "ProofChecker$Lines" "kinds" "[I", Cond.fieldLink RX1 22 "ProofChecker$Lines" "count" "I", Cond.fieldLink RX1 13 "ProofChecker$Lines" "numbers" "[I", Cond.fieldLink RX1 16 "ProofChecker$Lines" "sizes" "[I", Cond.methodLink RX2 64 yX2_readNumber, Cond.instanceMethod yX2_readNumber, Cond.selects RX2 yX2_readNumber yX2_readNumber, Cond.code yX2_readNumber cX2_readNumber 3 (some .int), Cond.methodLink RX2 87 yX2_digitHere, Cond.instanceMethod yX2_digitHere]
def wsX2_readHead_r2 : List Cond := [Cond.selects RX2 yX2_digitHere yX2_digitHere, Cond.code yX2_digitHere cX2_digitHere 1 (some .int)]
def wsX2_readHead : List Cond := .code yX2_readHead cX2_readHead 3 (some .boolean) :: ((wsX2_readHead_r1 ++ wsX2_readHead_r2) ++ wsX20 ++ wsX10)
def wsX2_readNumberBelow : List Cond := .code yX2_readNumberBelow cX2_readNumberBelow 3 (some .int) :: ([.fieldLink RX2 19 "ProofChecker$Reader" "place" "I", .methodLink RX2 64 yX2_readNumber, .instanceMethod yX2_readNumber, .selects RX2 yX2_readNumber yX2_readNumber, .initialized RX2, .code yX2_readNumber cX2_readNumber 3 (some .int), .methodLink RX2 87 yX2_digitHere, .instanceMethod yX2_digitHere, .selects RX2 yX2_digitHere yX2_digitHere, .code yX2_digitHere cX2_digitHere 1 (some .int), .fieldLink RX2 15 "ProofChecker$Reader" "count" "I", .fieldLink RX2 11 "ProofChecker$Reader" "bytes" "[I"] ++ wsX20)
def wsX2_readLiteral_r1 : List Cond := [Cond.fieldLink RX2 19 "ProofChecker$Reader" "place" "I", Cond.fieldLink RX2 22 "ProofChecker$Reader" "grid" "LProofChecker$Grid;", Cond.fieldLink RX2 26 "ProofChecker$Reader" "lines" "LProofChecker$Lines;", Cond.methodLink RX2 46 yX2_isHere, Cond.instanceMethod yX2_isHere, Cond.selects RX2 yX2_isHere yX2_isHere, Cond.initialized RX2, Cond.code yX2_isHere cX2_isHere 2 (some .boolean), Cond.fieldLink RX2 15 "ProofChecker$Reader" "count" "I", Cond.fieldLink RX2 11 "ProofChecker$Reader" "bytes" "[I", Cond.methodLink RX2 67 yX0_cells, Cond.instanceMethod yX0_cells, Cond.selects RX0 yX0_cells yX0_cells, Cond.initialized RX0, Cond.code yX0_cells cX0_cells 1 (some .int), Cond.fieldLink RX0 17 "ProofChecker$Grid" "cells" "I", Cond.methodLink RX2 72 yX2_readNumberBelow, Cond.instanceMethod yX2_readNumberBelow, Cond.selects RX2 yX2_readNumberBelow yX2_readNumberBelow, Cond.code yX2_readNumberBelow cX2_readNumberBelow 3 (some .int), Cond.methodLink RX2 64 yX2_readNumber, Cond.instanceMethod yX2_readNumber, Cond.selects RX2 yX2_readNumber yX2_readNumber, Cond.code yX2_readNumber cX2_readNumber 3 (some .int)]
def wsX2_readLiteral_r2 : List Cond := [Cond.methodLink RX2 87 yX2_digitHere, Cond.instanceMethod yX2_digitHere, Cond.selects RX2 yX2_digitHere yX2_digitHere, Cond.code yX2_digitHere cX2_digitHere 1 (some .int), Cond.methodLink RX2 76 yX0_symbols, Cond.instanceMethod yX0_symbols, Cond.selects RX0 yX0_symbols yX0_symbols, Cond.code yX0_symbols cX0_symbols 1 (some .int), Cond.fieldLink RX0 20 "ProofChecker$Grid" "symbols" "I", Cond.methodLink RX2 79 yX1_literalOf, Cond.static yX1_literalOf, Cond.initialized RX1, Cond.code yX1_literalOf cX1_literalOf 3 (some .int), Cond.methodLink RX2 83 yX1_addLiteral, Cond.instanceMethod yX1_addLiteral, Cond.selects RX1 yX1_addLiteral yX1_addLiteral, Cond.code yX1_addLiteral cX1_addLiteral 5 (some .boolean), Cond.fieldLink RX1 16 "ProofChecker$Lines" "sizes" "[I", Cond.fieldLink RX1 19 "ProofChecker$Lines" "literals" "[I", Cond.methodLink RX1 30 yX1_isFullOfLiterals, Cond.instanceMethod yX1_isFullOfLiterals, Cond.selects RX1 yX1_isFullOfLiterals yX1_isFullOfLiterals, Cond.code yX1_isFullOfLiterals cX1_isFullOfLiterals 2 (some .boolean), Cond.methodLink RX1 34 yX1_literalAt]
def wsX2_readLiteral_r3 : List Cond := [Cond.instanceMethod yX1_literalAt, Cond.selects RX1 yX1_literalAt yX1_literalAt, Cond.code yX1_literalAt cX1_literalAt 3 (some .int)]
def wsX2_readLiteral : List Cond := .code yX2_readLiteral cX2_readLiteral 5 (some .boolean) :: ((wsX2_readLiteral_r1 ++ (wsX2_readLiteral_r2 ++ wsX2_readLiteral_r3)) ++ wsX20 ++ wsX00 ++ wsX10)
def wsX2_readLine_r1 : List Cond := [Cond.fieldLink RX2 26 "ProofChecker$Reader" "lines" "LProofChecker$Lines;", Cond.fieldLink RX2 19 "ProofChecker$Reader" "place" "I", Cond.methodLink RX2 43 yX2_readHead, Cond.instanceMethod yX2_readHead, Cond.selects RX2 yX2_readHead yX2_readHead, Cond.initialized RX2, Cond.code yX2_readHead cX2_readHead 3 (some .boolean), Cond.methodLink RX2 46 yX2_isHere, Cond.instanceMethod yX2_isHere, Cond.selects RX2 yX2_isHere yX2_isHere, Cond.code yX2_isHere cX2_isHere 2 (some .boolean), Cond.fieldLink RX2 15 "ProofChecker$Reader" "count" "I", Cond.fieldLink RX2 11 "ProofChecker$Reader" "bytes" "[I", Cond.methodLink RX2 60 yX1_startDraft, Cond.instanceMethod yX1_startDraft, Cond.selects RX1 yX1_startDraft yX1_startDraft, Cond.initialized RX1, Cond.code yX1_startDraft cX1_startDraft 3 none, Cond.fieldLink RX1 9 "ProofChecker$Lines" "kinds" "[I", Cond.fieldLink RX1 22 "ProofChecker$Lines" "count" "I", Cond.fieldLink RX1 13 "ProofChecker$Lines" "numbers" "[I", Cond.fieldLink RX1 16 "ProofChecker$Lines" "sizes" "[I", Cond.methodLink RX2 64 yX2_readNumber, Cond.instanceMethod yX2_readNumber]
def wsX2_readLine_r2 : List Cond := [Cond.selects RX2 yX2_readNumber yX2_readNumber, Cond.code yX2_readNumber cX2_readNumber 3 (some .int), Cond.methodLink RX2 87 yX2_digitHere, Cond.instanceMethod yX2_digitHere, Cond.selects RX2 yX2_digitHere yX2_digitHere, Cond.code yX2_digitHere cX2_digitHere 1 (some .int), Cond.methodLink RX2 30 yX1_count, Cond.instanceMethod yX1_count, Cond.selects RX1 yX1_count yX1_count, Cond.code yX1_count cX1_count 1 (some .int), Cond.methodLink RX2 50 yX1_isFullOfLiterals, Cond.instanceMethod yX1_isFullOfLiterals, Cond.selects RX1 yX1_isFullOfLiterals yX1_isFullOfLiterals, Cond.code yX1_isFullOfLiterals cX1_isFullOfLiterals 2 (some .boolean), Cond.methodLink RX2 54 yX2_readLiteral, Cond.instanceMethod yX2_readLiteral, Cond.selects RX2 yX2_readLiteral yX2_readLiteral, Cond.code yX2_readLiteral cX2_readLiteral 5 (some .boolean), Cond.fieldLink RX2 22 "ProofChecker$Reader" "grid" "LProofChecker$Grid;", Cond.methodLink RX2 67 yX0_cells, Cond.instanceMethod yX0_cells, Cond.selects RX0 yX0_cells yX0_cells, Cond.initialized RX0, Cond.code yX0_cells cX0_cells 1 (some .int)]
def wsX2_readLine_r3 : List Cond := [Cond.fieldLink RX0 17 "ProofChecker$Grid" "cells" "I", Cond.methodLink RX2 72 yX2_readNumberBelow, Cond.instanceMethod yX2_readNumberBelow, Cond.selects RX2 yX2_readNumberBelow yX2_readNumberBelow, Cond.code yX2_readNumberBelow cX2_readNumberBelow 3 (some .int), Cond.methodLink RX2 76 yX0_symbols, Cond.instanceMethod yX0_symbols, Cond.selects RX0 yX0_symbols yX0_symbols, Cond.code yX0_symbols cX0_symbols 1 (some .int), Cond.fieldLink RX0 20 "ProofChecker$Grid" "symbols" "I", Cond.methodLink RX2 79 yX1_literalOf, Cond.static yX1_literalOf, Cond.code yX1_literalOf cX1_literalOf 3 (some .int), Cond.methodLink RX2 83 yX1_addLiteral, Cond.instanceMethod yX1_addLiteral, Cond.selects RX1 yX1_addLiteral yX1_addLiteral, Cond.code yX1_addLiteral cX1_addLiteral 5 (some .boolean), Cond.fieldLink RX1 19 "ProofChecker$Lines" "literals" "[I", Cond.methodLink RX1 30 yX1_isFullOfLiterals, Cond.methodLink RX1 34 yX1_literalAt, Cond.instanceMethod yX1_literalAt, Cond.selects RX1 yX1_literalAt yX1_literalAt, Cond.code yX1_literalAt cX1_literalAt 3 (some .int), Cond.methodLink RX2 57 yX1_keepDraft]
def wsX2_readLine_r4 : List Cond := [Cond.instanceMethod yX1_keepDraft, Cond.selects RX1 yX1_keepDraft yX1_keepDraft, Cond.code yX1_keepDraft cX1_keepDraft 1 (some .boolean), Cond.methodLink RX1 26 yX1_isFull, Cond.instanceMethod yX1_isFull, Cond.selects RX1 yX1_isFull yX1_isFull, Cond.code yX1_isFull cX1_isFull 1 (some .boolean)]
def wsX2_readLine : List Cond := .code yX2_readLine cX2_readLine 3 (some .boolean) :: ((wsX2_readLine_r1 ++ (wsX2_readLine_r2 ++ (wsX2_readLine_r3 ++ wsX2_readLine_r4))) ++ wsX20 ++ wsX10 ++ wsX00)
def wsX2_readAll_r1 : List Cond := [Cond.fieldLink RX2 26 "ProofChecker$Reader" "lines" "LProofChecker$Lines;", Cond.fieldLink RX2 19 "ProofChecker$Reader" "place" "I", Cond.fieldLink RX2 15 "ProofChecker$Reader" "count" "I", Cond.methodLink RX2 30 yX1_count, Cond.instanceMethod yX1_count, Cond.selects RX1 yX1_count yX1_count, Cond.initialized RX1, Cond.code yX1_count cX1_count 1 (some .int), Cond.fieldLink RX1 22 "ProofChecker$Lines" "count" "I", Cond.methodLink RX2 35 yX2_readLine, Cond.instanceMethod yX2_readLine, Cond.selects RX2 yX2_readLine yX2_readLine, Cond.initialized RX2, Cond.code yX2_readLine cX2_readLine 3 (some .boolean), Cond.methodLink RX2 43 yX2_readHead, Cond.instanceMethod yX2_readHead, Cond.selects RX2 yX2_readHead yX2_readHead, Cond.code yX2_readHead cX2_readHead 3 (some .boolean), Cond.methodLink RX2 46 yX2_isHere, Cond.instanceMethod yX2_isHere, Cond.selects RX2 yX2_isHere yX2_isHere, Cond.code yX2_isHere cX2_isHere 2 (some .boolean), Cond.fieldLink RX2 11 "ProofChecker$Reader" "bytes" "[I", Cond.methodLink RX2 60 yX1_startDraft]
def wsX2_readAll_r2 : List Cond := [Cond.instanceMethod yX1_startDraft, Cond.selects RX1 yX1_startDraft yX1_startDraft, Cond.code yX1_startDraft cX1_startDraft 3 none, Cond.fieldLink RX1 9 "ProofChecker$Lines" "kinds" "[I", Cond.fieldLink RX1 13 "ProofChecker$Lines" "numbers" "[I", Cond.fieldLink RX1 16 "ProofChecker$Lines" "sizes" "[I", Cond.methodLink RX2 64 yX2_readNumber, Cond.instanceMethod yX2_readNumber, Cond.selects RX2 yX2_readNumber yX2_readNumber, Cond.code yX2_readNumber cX2_readNumber 3 (some .int), Cond.methodLink RX2 87 yX2_digitHere, Cond.instanceMethod yX2_digitHere, Cond.selects RX2 yX2_digitHere yX2_digitHere, Cond.code yX2_digitHere cX2_digitHere 1 (some .int), Cond.methodLink RX2 50 yX1_isFullOfLiterals, Cond.instanceMethod yX1_isFullOfLiterals, Cond.selects RX1 yX1_isFullOfLiterals yX1_isFullOfLiterals, Cond.code yX1_isFullOfLiterals cX1_isFullOfLiterals 2 (some .boolean), Cond.methodLink RX2 54 yX2_readLiteral, Cond.instanceMethod yX2_readLiteral, Cond.selects RX2 yX2_readLiteral yX2_readLiteral, Cond.code yX2_readLiteral cX2_readLiteral 5 (some .boolean), Cond.fieldLink RX2 22 "ProofChecker$Reader" "grid" "LProofChecker$Grid;", Cond.methodLink RX2 67 yX0_cells]
def wsX2_readAll_r3 : List Cond := [Cond.instanceMethod yX0_cells, Cond.selects RX0 yX0_cells yX0_cells, Cond.initialized RX0, Cond.code yX0_cells cX0_cells 1 (some .int), Cond.fieldLink RX0 17 "ProofChecker$Grid" "cells" "I", Cond.methodLink RX2 72 yX2_readNumberBelow, Cond.instanceMethod yX2_readNumberBelow, Cond.selects RX2 yX2_readNumberBelow yX2_readNumberBelow, Cond.code yX2_readNumberBelow cX2_readNumberBelow 3 (some .int), Cond.methodLink RX2 76 yX0_symbols, Cond.instanceMethod yX0_symbols, Cond.selects RX0 yX0_symbols yX0_symbols, Cond.code yX0_symbols cX0_symbols 1 (some .int), Cond.fieldLink RX0 20 "ProofChecker$Grid" "symbols" "I", Cond.methodLink RX2 79 yX1_literalOf, Cond.static yX1_literalOf, Cond.code yX1_literalOf cX1_literalOf 3 (some .int), Cond.methodLink RX2 83 yX1_addLiteral, Cond.instanceMethod yX1_addLiteral, Cond.selects RX1 yX1_addLiteral yX1_addLiteral, Cond.code yX1_addLiteral cX1_addLiteral 5 (some .boolean), Cond.fieldLink RX1 19 "ProofChecker$Lines" "literals" "[I", Cond.methodLink RX1 30 yX1_isFullOfLiterals, Cond.methodLink RX1 34 yX1_literalAt]
def wsX2_readAll_r4 : List Cond := [Cond.instanceMethod yX1_literalAt, Cond.selects RX1 yX1_literalAt yX1_literalAt, Cond.code yX1_literalAt cX1_literalAt 3 (some .int), Cond.methodLink RX2 57 yX1_keepDraft, Cond.instanceMethod yX1_keepDraft, Cond.selects RX1 yX1_keepDraft yX1_keepDraft, Cond.code yX1_keepDraft cX1_keepDraft 1 (some .boolean), Cond.methodLink RX1 26 yX1_isFull, Cond.instanceMethod yX1_isFull, Cond.selects RX1 yX1_isFull yX1_isFull, Cond.code yX1_isFull cX1_isFull 1 (some .boolean), Cond.methodLink RX2 39 yX1_cutTo, Cond.instanceMethod yX1_cutTo, Cond.selects RX1 yX1_cutTo yX1_cutTo, Cond.code yX1_cutTo cX1_cutTo 2 none]
def wsX2_readAll : List Cond := .code yX2_readAll cX2_readAll 4 (some .int) :: ((wsX2_readAll_r1 ++ (wsX2_readAll_r2 ++ (wsX2_readAll_r3 ++ wsX2_readAll_r4))) ++ wsX20 ++ wsX10 ++ wsX00)
def wsX3_init : List Cond := .code yX3_init cX3_init 2 none :: ([.methodLink RX3 3 objectInit, .instanceMethod objectInit, .code objectInit ⟨#[0xb1]⟩ 1 none, .arrayClass .int, .fieldLink RX3 11 "ProofChecker$Rules" "kinds" "[I", .fieldLink RX3 15 "ProofChecker$Rules" "numbers" "[I", .fieldLink RX3 18 "ProofChecker$Rules" "sizes" "[I", .fieldLink RX3 21 "ProofChecker$Rules" "cells" "[I", .fieldLink RX3 26 "ProofChecker$Rules" "tried" "[I", .fieldLink RX3 29 "ProofChecker$Rules" "count" "I", .fieldLink RX3 33 "ProofChecker$Rules" "grid" "LProofChecker$Grid;"] ++ wsX30)
def wsX3_count : List Cond := .code yX3_count cX3_count 1 (some .int) :: ([.fieldLink RX3 29 "ProofChecker$Rules" "count" "I"] ++ wsX30)
def wsX3_has : List Cond := .code yX3_has cX3_has 2 (some .boolean) :: ([.fieldLink RX3 29 "ProofChecker$Rules" "count" "I"] ++ wsX30)
def wsX3_append : List Cond := .code yX3_append cX3_append 3 (some .int) :: ([.fieldLink RX3 29 "ProofChecker$Rules" "count" "I", .fieldLink RX3 11 "ProofChecker$Rules" "kinds" "[I", .fieldLink RX3 15 "ProofChecker$Rules" "numbers" "[I"] ++ wsX30)
def wsX3_cellAt : List Cond := .code yX3_cellAt cX3_cellAt 3 (some .int) :: ([.fieldLink RX3 21 "ProofChecker$Rules" "cells" "[I"] ++ wsX30)
def wsX3_addCell : List Cond := .code yX3_addCell cX3_addCell 5 (some .boolean) :: ([.fieldLink RX3 18 "ProofChecker$Rules" "sizes" "[I", .fieldLink RX3 21 "ProofChecker$Rules" "cells" "[I", .methodLink RX3 37 yX3_cellAt, .instanceMethod yX3_cellAt, .selects RX3 yX3_cellAt yX3_cellAt, .initialized RX3, .code yX3_cellAt cX3_cellAt 3 (some .int)] ++ wsX30)
def wsX3_allSaid : List Cond := .code yX3_allSaid cX3_allSaid 4 (some .boolean) :: ([.fieldLink RX3 18 "ProofChecker$Rules" "sizes" "[I", .methodLink RX3 37 yX3_cellAt, .instanceMethod yX3_cellAt, .selects RX3 yX3_cellAt yX3_cellAt, .initialized RX3, .code yX3_cellAt cX3_cellAt 3 (some .int), .fieldLink RX3 21 "ProofChecker$Rules" "cells" "[I"] ++ wsX30)
def wsX3_areUnlike : List Cond := .code yX3_areUnlike cX3_areUnlike 6 (some .boolean) :: ([.fieldLink RX3 18 "ProofChecker$Rules" "sizes" "[I", .methodLink RX3 37 yX3_cellAt, .instanceMethod yX3_cellAt, .selects RX3 yX3_cellAt yX3_cellAt, .initialized RX3, .code yX3_cellAt cX3_cellAt 3 (some .int), .fieldLink RX3 21 "ProofChecker$Rules" "cells" "[I"] ++ wsX30)
def wsX3_sum : List Cond := .code yX3_sum cX3_sum 5 (some .int) :: ([.fieldLink RX3 18 "ProofChecker$Rules" "sizes" "[I", .methodLink RX3 37 yX3_cellAt, .instanceMethod yX3_cellAt, .selects RX3 yX3_cellAt yX3_cellAt, .initialized RX3, .code yX3_cellAt cX3_cellAt 3 (some .int), .fieldLink RX3 21 "ProofChecker$Rules" "cells" "[I"] ++ wsX30)
def wsX3_rise : List Cond := .code yX3_rise cX3_rise 4 (some .boolean) :: ([.fieldLink RX3 18 "ProofChecker$Rules" "sizes" "[I", .methodLink RX3 37 yX3_cellAt, .instanceMethod yX3_cellAt, .selects RX3 yX3_cellAt yX3_cellAt, .initialized RX3, .code yX3_cellAt cX3_cellAt 3 (some .int), .fieldLink RX3 21 "ProofChecker$Rules" "cells" "[I"] ++ wsX30)
def wsX3_likeTheFirst : List Cond := .code yX3_likeTheFirst cX3_likeTheFirst 6 (some .int) :: ([.fieldLink RX3 18 "ProofChecker$Rules" "sizes" "[I", .methodLink RX3 37 yX3_cellAt, .instanceMethod yX3_cellAt, .selects RX3 yX3_cellAt yX3_cellAt, .initialized RX3, .code yX3_cellAt cX3_cellAt 3 (some .int), .fieldLink RX3 21 "ProofChecker$Rules" "cells" "[I"] ++ wsX30)
def wsX3_cellsWithOne : List Cond := .code yX3_cellsWithOne cX3_cellsWithOne 6 (some .int) :: ([.fieldLink RX3 18 "ProofChecker$Rules" "sizes" "[I", .methodLink RX3 37 yX3_cellAt, .instanceMethod yX3_cellAt, .selects RX3 yX3_cellAt yX3_cellAt, .initialized RX3, .code yX3_cellAt cX3_cellAt 3 (some .int), .fieldLink RX3 21 "ProofChecker$Rules" "cells" "[I"] ++ wsX30)
def wsX3_meets_r1 : List Cond := [Cond.fieldLink RX3 11 "ProofChecker$Rules" "kinds" "[I", Cond.fieldLink RX3 15 "ProofChecker$Rules" "numbers" "[I", Cond.fieldLink RX3 18 "ProofChecker$Rules" "sizes" "[I", Cond.fieldLink RX3 33 "ProofChecker$Rules" "grid" "LProofChecker$Grid;", Cond.methodLink RX3 41 yX3_areUnlike, Cond.instanceMethod yX3_areUnlike, Cond.selects RX3 yX3_areUnlike yX3_areUnlike, Cond.initialized RX3, Cond.code yX3_areUnlike cX3_areUnlike 6 (some .boolean), Cond.methodLink RX3 37 yX3_cellAt, Cond.instanceMethod yX3_cellAt, Cond.selects RX3 yX3_cellAt yX3_cellAt, Cond.code yX3_cellAt cX3_cellAt 3 (some .int), Cond.fieldLink RX3 21 "ProofChecker$Rules" "cells" "[I", Cond.methodLink RX3 45 yX3_sum, Cond.instanceMethod yX3_sum, Cond.selects RX3 yX3_sum yX3_sum, Cond.code yX3_sum cX3_sum 5 (some .int), Cond.methodLink RX3 49 yX3_rise, Cond.instanceMethod yX3_rise, Cond.selects RX3 yX3_rise yX3_rise, Cond.code yX3_rise cX3_rise 4 (some .boolean), Cond.methodLink RX3 52 yX3_likeTheFirst, Cond.instanceMethod yX3_likeTheFirst]
def wsX3_meets_r2 : List Cond := [Cond.selects RX3 yX3_likeTheFirst yX3_likeTheFirst, Cond.code yX3_likeTheFirst cX3_likeTheFirst 6 (some .int), Cond.methodLink RX3 55 yX3_cellsWithOne, Cond.instanceMethod yX3_cellsWithOne, Cond.selects RX3 yX3_cellsWithOne yX3_cellsWithOne, Cond.code yX3_cellsWithOne cX3_cellsWithOne 6 (some .int), Cond.methodLink RX3 58 yX0_hangTogether, Cond.instanceMethod yX0_hangTogether, Cond.selects RX0 yX0_hangTogether yX0_hangTogether, Cond.initialized RX0, Cond.code yX0_hangTogether cX0_hangTogether 4 (some .boolean), Cond.fieldLink RX0 17 "ProofChecker$Grid" "cells" "I", Cond.methodLink RX0 37 yX0_nextTo, Cond.instanceMethod yX0_nextTo, Cond.selects RX0 yX0_nextTo yX0_nextTo, Cond.code yX0_nextTo cX0_nextTo 5 (some .int), Cond.fieldLink RX0 13 "ProofChecker$Grid" "width" "I", Cond.fieldLink RX0 23 "ProofChecker$Grid" "leftEdge" "I", Cond.fieldLink RX0 26 "ProofChecker$Grid" "rightEdge" "I"]
def wsX3_meets : List Cond := .code yX3_meets cX3_meets 3 (some .boolean) :: ((wsX3_meets_r1 ++ wsX3_meets_r2) ++ wsX30 ++ wsX00)
def wsX3_canBeTried : List Cond := .code yX3_canBeTried cX3_canBeTried 4 (some .boolean) :: ([.fieldLink RX3 18 "ProofChecker$Rules" "sizes" "[I", .fieldLink RX3 33 "ProofChecker$Rules" "grid" "LProofChecker$Grid;", .methodLink RX3 62 yX0_symbols, .instanceMethod yX0_symbols, .selects RX0 yX0_symbols yX0_symbols, .initialized RX0, .code yX0_symbols cX0_symbols 1 (some .int), .fieldLink RX0 20 "ProofChecker$Grid" "symbols" "I"] ++ wsX30 ++ wsX00)
def wsX4_symbolsOf : List Cond := .code yX4_symbolsOf cX4_symbolsOf 2 (some .int) :: ([.fieldLink RX4 11 "ProofChecker$Units" "symbols" "[I"] ++ wsX40)
def wsX3_canBeMet_r1 : List Cond := [Cond.fieldLink RX3 18 "ProofChecker$Rules" "sizes" "[I", Cond.fieldLink RX3 26 "ProofChecker$Rules" "tried" "[I", Cond.fieldLink RX3 33 "ProofChecker$Rules" "grid" "LProofChecker$Grid;", Cond.methodLink RX3 66 yX3_meets, Cond.instanceMethod yX3_meets, Cond.selects RX3 yX3_meets yX3_meets, Cond.initialized RX3, Cond.code yX3_meets cX3_meets 3 (some .boolean), Cond.fieldLink RX3 11 "ProofChecker$Rules" "kinds" "[I", Cond.fieldLink RX3 15 "ProofChecker$Rules" "numbers" "[I", Cond.methodLink RX3 41 yX3_areUnlike, Cond.instanceMethod yX3_areUnlike, Cond.selects RX3 yX3_areUnlike yX3_areUnlike, Cond.code yX3_areUnlike cX3_areUnlike 6 (some .boolean), Cond.methodLink RX3 37 yX3_cellAt, Cond.instanceMethod yX3_cellAt, Cond.selects RX3 yX3_cellAt yX3_cellAt, Cond.code yX3_cellAt cX3_cellAt 3 (some .int), Cond.fieldLink RX3 21 "ProofChecker$Rules" "cells" "[I", Cond.methodLink RX3 45 yX3_sum, Cond.instanceMethod yX3_sum, Cond.selects RX3 yX3_sum yX3_sum, Cond.code yX3_sum cX3_sum 5 (some .int), Cond.methodLink RX3 49 yX3_rise]
def wsX3_canBeMet_r2 : List Cond := [Cond.instanceMethod yX3_rise, Cond.selects RX3 yX3_rise yX3_rise, Cond.code yX3_rise cX3_rise 4 (some .boolean), Cond.methodLink RX3 52 yX3_likeTheFirst, Cond.instanceMethod yX3_likeTheFirst, Cond.selects RX3 yX3_likeTheFirst yX3_likeTheFirst, Cond.code yX3_likeTheFirst cX3_likeTheFirst 6 (some .int), Cond.methodLink RX3 55 yX3_cellsWithOne, Cond.instanceMethod yX3_cellsWithOne, Cond.selects RX3 yX3_cellsWithOne yX3_cellsWithOne, Cond.code yX3_cellsWithOne cX3_cellsWithOne 6 (some .int), Cond.methodLink RX3 58 yX0_hangTogether, Cond.instanceMethod yX0_hangTogether, Cond.selects RX0 yX0_hangTogether yX0_hangTogether, Cond.initialized RX0, Cond.code yX0_hangTogether cX0_hangTogether 4 (some .boolean), Cond.fieldLink RX0 17 "ProofChecker$Grid" "cells" "I", Cond.methodLink RX0 37 yX0_nextTo, Cond.instanceMethod yX0_nextTo, Cond.selects RX0 yX0_nextTo yX0_nextTo, Cond.code yX0_nextTo cX0_nextTo 5 (some .int), Cond.fieldLink RX0 13 "ProofChecker$Grid" "width" "I", Cond.fieldLink RX0 23 "ProofChecker$Grid" "leftEdge" "I", Cond.fieldLink RX0 26 "ProofChecker$Grid" "rightEdge" "I"]
def wsX3_canBeMet_r3 : List Cond := [Cond.methodLink RX3 69 yX4_symbolsOf, Cond.instanceMethod yX4_symbolsOf, Cond.selects RX4 yX4_symbolsOf yX4_symbolsOf, Cond.initialized RX4, Cond.code yX4_symbolsOf cX4_symbolsOf 2 (some .int), Cond.fieldLink RX4 11 "ProofChecker$Units" "symbols" "[I", Cond.methodLink RX3 62 yX0_symbols, Cond.instanceMethod yX0_symbols, Cond.selects RX0 yX0_symbols yX0_symbols, Cond.code yX0_symbols cX0_symbols 1 (some .int), Cond.fieldLink RX0 20 "ProofChecker$Grid" "symbols" "I", Cond.methodLink RX3 75 yX3_canBeMet, Cond.instanceMethod yX3_canBeMet, Cond.selects RX3 yX3_canBeMet yX3_canBeMet]
def wsX3_canBeMet : List Cond := .code yX3_canBeMet cX3_canBeMet 7 (some .boolean) :: ((wsX3_canBeMet_r1 ++ (wsX3_canBeMet_r2 ++ wsX3_canBeMet_r3)) ++ wsX30 ++ wsX00 ++ wsX40)
def wsX4_init : List Cond := .code yX4_init cX4_init 3 none :: ([.methodLink RX4 3 objectInit, .instanceMethod objectInit, .code objectInit ⟨#[0xb1]⟩ 1 none, .arrayClass .int, .fieldLink RX4 11 "ProofChecker$Units" "symbols" "[I", .fieldLink RX4 17 "ProofChecker$Units" "beforeSplit" "[I", .fieldLink RX4 20 "ProofChecker$Units" "grid" "LProofChecker$Grid;", .fieldLink RX4 24 "ProofChecker$Units" "lines" "LProofChecker$Lines;"] ++ wsX40)
def wsX4_startWhole : List Cond := .code yX4_startWhole cX4_startWhole 2 none :: ([.fieldLink RX4 20 "ProofChecker$Units" "grid" "LProofChecker$Grid;", .fieldLink RX4 11 "ProofChecker$Units" "symbols" "[I", .methodLink RX4 28 yX0_cells, .instanceMethod yX0_cells, .selects RX0 yX0_cells yX0_cells, .initialized RX0, .code yX0_cells cX0_cells 1 (some .int), .fieldLink RX0 17 "ProofChecker$Grid" "cells" "I", .methodLink RX4 32 yX0_allSymbols, .instanceMethod yX0_allSymbols, .selects RX0 yX0_allSymbols yX0_allSymbols, .code yX0_allSymbols cX0_allSymbols 1 (some .int), .fieldLink RX0 20 "ProofChecker$Grid" "symbols" "I"] ++ wsX40 ++ wsX00)
def wsX4_narrow : List Cond := .code yX4_narrow cX4_narrow 5 none :: ([.fieldLink RX4 11 "ProofChecker$Units" "symbols" "[I", .methodLink RX4 56 yX1_cellOf, .static yX1_cellOf, .initialized RX1, .code yX1_cellOf cX1_cellOf 1 (some .int), .methodLink RX4 59 yX1_symbolOf, .static yX1_symbolOf, .code yX1_symbolOf cX1_symbolOf 1 (some .int)] ++ wsX40)
def wsX4_turnRound_r1 : List Cond := [Cond.fieldLink RX4 24 "ProofChecker$Units" "lines" "LProofChecker$Lines;", Cond.methodLink RX4 35 yX4_startWhole, Cond.instanceMethod yX4_startWhole, Cond.selects RX4 yX4_startWhole yX4_startWhole, Cond.initialized RX4, Cond.code yX4_startWhole cX4_startWhole 2 none, Cond.fieldLink RX4 20 "ProofChecker$Units" "grid" "LProofChecker$Grid;", Cond.fieldLink RX4 11 "ProofChecker$Units" "symbols" "[I", Cond.methodLink RX4 28 yX0_cells, Cond.instanceMethod yX0_cells, Cond.selects RX0 yX0_cells yX0_cells, Cond.initialized RX0, Cond.code yX0_cells cX0_cells 1 (some .int), Cond.fieldLink RX0 17 "ProofChecker$Grid" "cells" "I", Cond.methodLink RX4 32 yX0_allSymbols, Cond.instanceMethod yX0_allSymbols, Cond.selects RX0 yX0_allSymbols yX0_allSymbols, Cond.code yX0_allSymbols cX0_allSymbols 1 (some .int), Cond.fieldLink RX0 20 "ProofChecker$Grid" "symbols" "I", Cond.methodLink RX4 38 yX1_sizeOf, Cond.instanceMethod yX1_sizeOf, Cond.selects RX1 yX1_sizeOf yX1_sizeOf, Cond.initialized RX1, Cond.code yX1_sizeOf cX1_sizeOf 2 (some .int)]
def wsX4_turnRound_r2 : List Cond := [Cond.fieldLink RX1 16 "ProofChecker$Lines" "sizes" "[I", Cond.methodLink RX4 44 yX1_literalAt, Cond.instanceMethod yX1_literalAt, Cond.selects RX1 yX1_literalAt yX1_literalAt, Cond.code yX1_literalAt cX1_literalAt 3 (some .int), Cond.fieldLink RX1 19 "ProofChecker$Lines" "literals" "[I", Cond.methodLink RX4 48 yX1_saysIs, Cond.static yX1_saysIs, Cond.code yX1_saysIs cX1_saysIs 1 (some .boolean), Cond.methodLink RX4 52 yX4_narrow, Cond.instanceMethod yX4_narrow, Cond.selects RX4 yX4_narrow yX4_narrow, Cond.code yX4_narrow cX4_narrow 5 none, Cond.methodLink RX4 56 yX1_cellOf, Cond.static yX1_cellOf, Cond.code yX1_cellOf cX1_cellOf 1 (some .int), Cond.methodLink RX4 59 yX1_symbolOf, Cond.static yX1_symbolOf, Cond.code yX1_symbolOf cX1_symbolOf 1 (some .int)]
def wsX4_turnRound : List Cond := .code yX4_turnRound cX4_turnRound 4 none :: ((wsX4_turnRound_r1 ++ wsX4_turnRound_r2) ++ wsX40 ++ wsX00 ++ wsX10)
def wsX4_someCellMayBeNothing : List Cond := .code yX4_someCellMayBeNothing cX4_someCellMayBeNothing 2 (some .boolean) :: ([.fieldLink RX4 20 "ProofChecker$Units" "grid" "LProofChecker$Grid;", .fieldLink RX4 11 "ProofChecker$Units" "symbols" "[I", .methodLink RX4 28 yX0_cells, .instanceMethod yX0_cells, .selects RX0 yX0_cells yX0_cells, .initialized RX0, .code yX0_cells cX0_cells 1 (some .int), .fieldLink RX0 17 "ProofChecker$Grid" "cells" "I"] ++ wsX40 ++ wsX00)
def wsX4_stateOf : List Cond := .code yX4_stateOf cX4_stateOf 4 (some .int) :: ([.fieldLink RX4 11 "ProofChecker$Units" "symbols" "[I", .methodLink RX4 56 yX1_cellOf, .static yX1_cellOf, .initialized RX1, .code yX1_cellOf cX1_cellOf 1 (some .int), .methodLink RX4 59 yX1_symbolOf, .static yX1_symbolOf, .code yX1_symbolOf cX1_symbolOf 1 (some .int), .methodLink RX4 48 yX1_saysIs, .static yX1_saysIs, .code yX1_saysIs cX1_saysIs 1 (some .boolean)] ++ wsX40)
def wsX4_stepBy_r1 : List Cond := [Cond.fieldLink RX4 24 "ProofChecker$Units" "lines" "LProofChecker$Lines;", Cond.methodLink RX4 38 yX1_sizeOf, Cond.instanceMethod yX1_sizeOf, Cond.selects RX1 yX1_sizeOf yX1_sizeOf, Cond.initialized RX1, Cond.code yX1_sizeOf cX1_sizeOf 2 (some .int), Cond.fieldLink RX1 16 "ProofChecker$Lines" "sizes" "[I", Cond.methodLink RX4 44 yX1_literalAt, Cond.instanceMethod yX1_literalAt, Cond.selects RX1 yX1_literalAt yX1_literalAt, Cond.code yX1_literalAt cX1_literalAt 3 (some .int), Cond.fieldLink RX1 19 "ProofChecker$Lines" "literals" "[I", Cond.methodLink RX4 87 yX4_stateOf, Cond.instanceMethod yX4_stateOf, Cond.selects RX4 yX4_stateOf yX4_stateOf, Cond.initialized RX4, Cond.code yX4_stateOf cX4_stateOf 4 (some .int), Cond.fieldLink RX4 11 "ProofChecker$Units" "symbols" "[I", Cond.methodLink RX4 56 yX1_cellOf, Cond.static yX1_cellOf, Cond.code yX1_cellOf cX1_cellOf 1 (some .int), Cond.methodLink RX4 59 yX1_symbolOf, Cond.static yX1_symbolOf, Cond.code yX1_symbolOf cX1_symbolOf 1 (some .int)]
def wsX4_stepBy_r2 : List Cond := [Cond.methodLink RX4 48 yX1_saysIs, Cond.static yX1_saysIs, Cond.code yX1_saysIs cX1_saysIs 1 (some .boolean), Cond.methodLink RX4 52 yX4_narrow, Cond.instanceMethod yX4_narrow, Cond.selects RX4 yX4_narrow yX4_narrow, Cond.code yX4_narrow cX4_narrow 5 none]
def wsX4_stepBy : List Cond := .code yX4_stepBy cX4_stepBy 6 (some .int) :: ((wsX4_stepBy_r1 ++ wsX4_stepBy_r2) ++ wsX40 ++ wsX10)
def wsX4_comeToNothing_r1 : List Cond := [Cond.fieldLink RX4 20 "ProofChecker$Units" "grid" "LProofChecker$Grid;", Cond.methodLink RX4 80 yX4_someCellMayBeNothing, Cond.instanceMethod yX4_someCellMayBeNothing, Cond.selects RX4 yX4_someCellMayBeNothing yX4_someCellMayBeNothing, Cond.initialized RX4, Cond.code yX4_someCellMayBeNothing cX4_someCellMayBeNothing 2 (some .boolean), Cond.fieldLink RX4 11 "ProofChecker$Units" "symbols" "[I", Cond.methodLink RX4 28 yX0_cells, Cond.instanceMethod yX0_cells, Cond.selects RX0 yX0_cells yX0_cells, Cond.initialized RX0, Cond.code yX0_cells cX0_cells 1 (some .int), Cond.fieldLink RX0 17 "ProofChecker$Grid" "cells" "I", Cond.methodLink RX4 78 yX0_symbols, Cond.instanceMethod yX0_symbols, Cond.selects RX0 yX0_symbols yX0_symbols, Cond.code yX0_symbols cX0_symbols 1 (some .int), Cond.fieldLink RX0 20 "ProofChecker$Grid" "symbols" "I", Cond.methodLink RX4 84 yX4_stepBy, Cond.instanceMethod yX4_stepBy, Cond.selects RX4 yX4_stepBy yX4_stepBy, Cond.code yX4_stepBy cX4_stepBy 6 (some .int), Cond.fieldLink RX4 24 "ProofChecker$Units" "lines" "LProofChecker$Lines;", Cond.methodLink RX4 38 yX1_sizeOf]
def wsX4_comeToNothing_r2 : List Cond := [Cond.instanceMethod yX1_sizeOf, Cond.selects RX1 yX1_sizeOf yX1_sizeOf, Cond.initialized RX1, Cond.code yX1_sizeOf cX1_sizeOf 2 (some .int), Cond.fieldLink RX1 16 "ProofChecker$Lines" "sizes" "[I", Cond.methodLink RX4 44 yX1_literalAt, Cond.instanceMethod yX1_literalAt, Cond.selects RX1 yX1_literalAt yX1_literalAt, Cond.code yX1_literalAt cX1_literalAt 3 (some .int), Cond.fieldLink RX1 19 "ProofChecker$Lines" "literals" "[I", Cond.methodLink RX4 87 yX4_stateOf, Cond.instanceMethod yX4_stateOf, Cond.selects RX4 yX4_stateOf yX4_stateOf, Cond.code yX4_stateOf cX4_stateOf 4 (some .int), Cond.methodLink RX4 56 yX1_cellOf, Cond.static yX1_cellOf, Cond.code yX1_cellOf cX1_cellOf 1 (some .int), Cond.methodLink RX4 59 yX1_symbolOf, Cond.static yX1_symbolOf, Cond.code yX1_symbolOf cX1_symbolOf 1 (some .int), Cond.methodLink RX4 48 yX1_saysIs, Cond.static yX1_saysIs, Cond.code yX1_saysIs cX1_saysIs 1 (some .boolean), Cond.methodLink RX4 52 yX4_narrow]
def wsX4_comeToNothing_r3 : List Cond := [Cond.instanceMethod yX4_narrow, Cond.selects RX4 yX4_narrow yX4_narrow, Cond.code yX4_narrow cX4_narrow 5 none]
def wsX4_comeToNothing : List Cond := .code yX4_comeToNothing cX4_comeToNothing 6 (some .boolean) :: ((wsX4_comeToNothing_r1 ++ (wsX4_comeToNothing_r2 ++ wsX4_comeToNothing_r3)) ++ wsX40 ++ wsX00 ++ wsX10)
def wsX4_refute_r1 : List Cond := [Cond.methodLink RX4 62 yX4_turnRound, Cond.instanceMethod yX4_turnRound, Cond.selects RX4 yX4_turnRound yX4_turnRound, Cond.initialized RX4, Cond.code yX4_turnRound cX4_turnRound 4 none, Cond.fieldLink RX4 24 "ProofChecker$Units" "lines" "LProofChecker$Lines;", Cond.methodLink RX4 35 yX4_startWhole, Cond.instanceMethod yX4_startWhole, Cond.selects RX4 yX4_startWhole yX4_startWhole, Cond.code yX4_startWhole cX4_startWhole 2 none, Cond.fieldLink RX4 20 "ProofChecker$Units" "grid" "LProofChecker$Grid;", Cond.fieldLink RX4 11 "ProofChecker$Units" "symbols" "[I", Cond.methodLink RX4 28 yX0_cells, Cond.instanceMethod yX0_cells, Cond.selects RX0 yX0_cells yX0_cells, Cond.initialized RX0, Cond.code yX0_cells cX0_cells 1 (some .int), Cond.fieldLink RX0 17 "ProofChecker$Grid" "cells" "I", Cond.methodLink RX4 32 yX0_allSymbols, Cond.instanceMethod yX0_allSymbols, Cond.selects RX0 yX0_allSymbols yX0_allSymbols, Cond.code yX0_allSymbols cX0_allSymbols 1 (some .int), Cond.fieldLink RX0 20 "ProofChecker$Grid" "symbols" "I", Cond.methodLink RX4 38 yX1_sizeOf]
def wsX4_refute_r2 : List Cond := [Cond.instanceMethod yX1_sizeOf, Cond.selects RX1 yX1_sizeOf yX1_sizeOf, Cond.initialized RX1, Cond.code yX1_sizeOf cX1_sizeOf 2 (some .int), Cond.fieldLink RX1 16 "ProofChecker$Lines" "sizes" "[I", Cond.methodLink RX4 44 yX1_literalAt, Cond.instanceMethod yX1_literalAt, Cond.selects RX1 yX1_literalAt yX1_literalAt, Cond.code yX1_literalAt cX1_literalAt 3 (some .int), Cond.fieldLink RX1 19 "ProofChecker$Lines" "literals" "[I", Cond.methodLink RX4 48 yX1_saysIs, Cond.static yX1_saysIs, Cond.code yX1_saysIs cX1_saysIs 1 (some .boolean), Cond.methodLink RX4 52 yX4_narrow, Cond.instanceMethod yX4_narrow, Cond.selects RX4 yX4_narrow yX4_narrow, Cond.code yX4_narrow cX4_narrow 5 none, Cond.methodLink RX4 56 yX1_cellOf, Cond.static yX1_cellOf, Cond.code yX1_cellOf cX1_cellOf 1 (some .int), Cond.methodLink RX4 59 yX1_symbolOf, Cond.static yX1_symbolOf, Cond.code yX1_symbolOf cX1_symbolOf 1 (some .int), Cond.methodLink RX4 66 yX4_comeToNothing]
def wsX4_refute_r3 : List Cond := [Cond.instanceMethod yX4_comeToNothing, Cond.selects RX4 yX4_comeToNothing yX4_comeToNothing, Cond.code yX4_comeToNothing cX4_comeToNothing 6 (some .boolean), Cond.methodLink RX4 80 yX4_someCellMayBeNothing, Cond.instanceMethod yX4_someCellMayBeNothing, Cond.selects RX4 yX4_someCellMayBeNothing yX4_someCellMayBeNothing, Cond.code yX4_someCellMayBeNothing cX4_someCellMayBeNothing 2 (some .boolean), Cond.methodLink RX4 78 yX0_symbols, Cond.instanceMethod yX0_symbols, Cond.selects RX0 yX0_symbols yX0_symbols, Cond.code yX0_symbols cX0_symbols 1 (some .int), Cond.methodLink RX4 84 yX4_stepBy, Cond.instanceMethod yX4_stepBy, Cond.selects RX4 yX4_stepBy yX4_stepBy, Cond.code yX4_stepBy cX4_stepBy 6 (some .int), Cond.methodLink RX4 87 yX4_stateOf, Cond.instanceMethod yX4_stateOf, Cond.selects RX4 yX4_stateOf yX4_stateOf, Cond.code yX4_stateOf cX4_stateOf 4 (some .int)]
def wsX4_refute : List Cond := .code yX4_refute cX4_refute 2 (some .boolean) :: ((wsX4_refute_r1 ++ (wsX4_refute_r2 ++ wsX4_refute_r3)) ++ wsX40 ++ wsX00 ++ wsX10)
def wsX4_refuteBySplit_r1 : List Cond := [Cond.fieldLink RX4 11 "ProofChecker$Units" "symbols" "[I", Cond.fieldLink RX4 17 "ProofChecker$Units" "beforeSplit" "[I", Cond.methodLink RX4 72 arraycopyName, Cond.native arraycopyName, Cond.static arraycopyName, Cond.initialized "java/lang/System", Cond.fieldLink RX4 20 "ProofChecker$Units" "grid" "LProofChecker$Grid;", Cond.methodLink RX4 69 yX4_refute, Cond.instanceMethod yX4_refute, Cond.selects RX4 yX4_refute yX4_refute, Cond.initialized RX4, Cond.code yX4_refute cX4_refute 2 (some .boolean), Cond.methodLink RX4 62 yX4_turnRound, Cond.instanceMethod yX4_turnRound, Cond.selects RX4 yX4_turnRound yX4_turnRound, Cond.code yX4_turnRound cX4_turnRound 4 none, Cond.fieldLink RX4 24 "ProofChecker$Units" "lines" "LProofChecker$Lines;", Cond.methodLink RX4 35 yX4_startWhole, Cond.instanceMethod yX4_startWhole, Cond.selects RX4 yX4_startWhole yX4_startWhole, Cond.code yX4_startWhole cX4_startWhole 2 none, Cond.methodLink RX4 28 yX0_cells, Cond.instanceMethod yX0_cells, Cond.selects RX0 yX0_cells yX0_cells]
def wsX4_refuteBySplit_r2 : List Cond := [Cond.initialized RX0, Cond.code yX0_cells cX0_cells 1 (some .int), Cond.fieldLink RX0 17 "ProofChecker$Grid" "cells" "I", Cond.methodLink RX4 32 yX0_allSymbols, Cond.instanceMethod yX0_allSymbols, Cond.selects RX0 yX0_allSymbols yX0_allSymbols, Cond.code yX0_allSymbols cX0_allSymbols 1 (some .int), Cond.fieldLink RX0 20 "ProofChecker$Grid" "symbols" "I", Cond.methodLink RX4 38 yX1_sizeOf, Cond.instanceMethod yX1_sizeOf, Cond.selects RX1 yX1_sizeOf yX1_sizeOf, Cond.initialized RX1, Cond.code yX1_sizeOf cX1_sizeOf 2 (some .int), Cond.fieldLink RX1 16 "ProofChecker$Lines" "sizes" "[I", Cond.methodLink RX4 44 yX1_literalAt, Cond.instanceMethod yX1_literalAt, Cond.selects RX1 yX1_literalAt yX1_literalAt, Cond.code yX1_literalAt cX1_literalAt 3 (some .int), Cond.fieldLink RX1 19 "ProofChecker$Lines" "literals" "[I", Cond.methodLink RX4 48 yX1_saysIs, Cond.static yX1_saysIs, Cond.code yX1_saysIs cX1_saysIs 1 (some .boolean), Cond.methodLink RX4 52 yX4_narrow, Cond.instanceMethod yX4_narrow]
def wsX4_refuteBySplit_r3 : List Cond := [Cond.selects RX4 yX4_narrow yX4_narrow, Cond.code yX4_narrow cX4_narrow 5 none, Cond.methodLink RX4 56 yX1_cellOf, Cond.static yX1_cellOf, Cond.code yX1_cellOf cX1_cellOf 1 (some .int), Cond.methodLink RX4 59 yX1_symbolOf, Cond.static yX1_symbolOf, Cond.code yX1_symbolOf cX1_symbolOf 1 (some .int), Cond.methodLink RX4 66 yX4_comeToNothing, Cond.instanceMethod yX4_comeToNothing, Cond.selects RX4 yX4_comeToNothing yX4_comeToNothing, Cond.code yX4_comeToNothing cX4_comeToNothing 6 (some .boolean), Cond.methodLink RX4 80 yX4_someCellMayBeNothing, Cond.instanceMethod yX4_someCellMayBeNothing, Cond.selects RX4 yX4_someCellMayBeNothing yX4_someCellMayBeNothing, Cond.code yX4_someCellMayBeNothing cX4_someCellMayBeNothing 2 (some .boolean), Cond.methodLink RX4 78 yX0_symbols, Cond.instanceMethod yX0_symbols, Cond.selects RX0 yX0_symbols yX0_symbols, Cond.code yX0_symbols cX0_symbols 1 (some .int), Cond.methodLink RX4 84 yX4_stepBy, Cond.instanceMethod yX4_stepBy, Cond.selects RX4 yX4_stepBy yX4_stepBy, Cond.code yX4_stepBy cX4_stepBy 6 (some .int)]
def wsX4_refuteBySplit_r4 : List Cond := [Cond.methodLink RX4 87 yX4_stateOf, Cond.instanceMethod yX4_stateOf, Cond.selects RX4 yX4_stateOf yX4_stateOf, Cond.code yX4_stateOf cX4_stateOf 4 (some .int)]
def wsX4_refuteBySplit : List Cond := .code yX4_refuteBySplit cX4_refuteBySplit 5 (some .boolean) :: ((wsX4_refuteBySplit_r1 ++ (wsX4_refuteBySplit_r2 ++ (wsX4_refuteBySplit_r3 ++ wsX4_refuteBySplit_r4))) ++ wsX40 ++ wsX00 ++ wsX10)
def wsX5_init_r1 : List Cond := [Cond.methodLink RX5 1 objectInit, Cond.instanceMethod objectInit, Cond.code objectInit ⟨#[0xb1]⟩ 1 none, Cond.classLink RX5 7 RX0, Cond.instantiable RX0 5, Cond.initialized RX0, Cond.fieldLink RX5 12 "ProofChecker" "grid" "LProofChecker$Grid;", Cond.classLink RX5 18 RX3, Cond.instantiable RX3 7, Cond.initialized RX3, Cond.fieldLink RX5 23 "ProofChecker" "rules" "LProofChecker$Rules;", Cond.classLink RX5 27 RX1, Cond.instantiable RX1 5, Cond.initialized RX1, Cond.fieldLink RX5 30 "ProofChecker" "lines" "LProofChecker$Lines;", Cond.classLink RX5 34 RX4, Cond.instantiable RX4 4, Cond.initialized RX4, Cond.fieldLink RX5 39 "ProofChecker" "units" "LProofChecker$Units;", Cond.classLink RX5 43 RX2, Cond.instantiable RX2 5, Cond.initialized RX2, Cond.fieldLink RX5 46 "ProofChecker" "reader" "LProofChecker$Reader;", Cond.arrayClass .int]
def wsX5_init_r2 : List Cond := [Cond.fieldLink RX5 50 "ProofChecker" "said" "[I", Cond.methodLink RX5 9 yX0_init, Cond.instanceMethod yX0_init, Cond.code yX0_init cX0_init 6 none, Cond.methodLink RX0 1 objectInit, Cond.fieldLink RX0 13 "ProofChecker$Grid" "width" "I", Cond.fieldLink RX0 17 "ProofChecker$Grid" "cells" "I", Cond.fieldLink RX0 20 "ProofChecker$Grid" "symbols" "I", Cond.fieldLink RX0 23 "ProofChecker$Grid" "leftEdge" "I", Cond.fieldLink RX0 26 "ProofChecker$Grid" "rightEdge" "I", Cond.methodLink RX0 9 yX0_within, Cond.static yX0_within, Cond.code yX0_within cX0_within 2 (some .int), Cond.methodLink RX0 29 Lib.Math.min.name, Cond.static Lib.Math.min.name, Cond.initialized "java/lang/Math", Cond.code Lib.Math.min.name Lib.Math.min.code 2 (some .int), Cond.methodLink RX0 34 Lib.Math.max.name, Cond.static Lib.Math.max.name, Cond.code Lib.Math.max.name Lib.Math.max.code 2 (some .int), Cond.methodLink RX5 20 yX3_init, Cond.instanceMethod yX3_init, Cond.code yX3_init cX3_init 2 none, Cond.methodLink RX3 3 objectInit]
def wsX5_init_r3 : List Cond := [Cond.fieldLink RX3 11 "ProofChecker$Rules" "kinds" "[I", Cond.fieldLink RX3 15 "ProofChecker$Rules" "numbers" "[I", Cond.fieldLink RX3 18 "ProofChecker$Rules" "sizes" "[I", Cond.fieldLink RX3 21 "ProofChecker$Rules" "cells" "[I", Cond.fieldLink RX3 26 "ProofChecker$Rules" "tried" "[I", Cond.fieldLink RX3 29 "ProofChecker$Rules" "count" "I", Cond.fieldLink RX3 33 "ProofChecker$Rules" "grid" "LProofChecker$Grid;", Cond.instanceMethod yX1_init, Cond.code yX1_init cX1_init 1 none, Cond.methodLink RX1 1 objectInit, Cond.fieldLink RX1 9 "ProofChecker$Lines" "kinds" "[I", Cond.fieldLink RX1 13 "ProofChecker$Lines" "numbers" "[I", Cond.fieldLink RX1 16 "ProofChecker$Lines" "sizes" "[I", Cond.fieldLink RX1 19 "ProofChecker$Lines" "literals" "[I", Cond.fieldLink RX1 22 "ProofChecker$Lines" "count" "I", Cond.methodLink RX5 36 yX4_init, Cond.instanceMethod yX4_init, Cond.code yX4_init cX4_init 3 none, Cond.methodLink RX4 3 objectInit, Cond.fieldLink RX4 11 "ProofChecker$Units" "symbols" "[I", Cond.fieldLink RX4 17 "ProofChecker$Units" "beforeSplit" "[I", Cond.fieldLink RX4 20 "ProofChecker$Units" "grid" "LProofChecker$Grid;", Cond.fieldLink RX4 24 "ProofChecker$Units" "lines" "LProofChecker$Lines;", Cond.methodLink RX5 45 yX2_init]
def wsX5_init_r4 : List Cond := [Cond.instanceMethod yX2_init, Cond.code yX2_init cX2_init 3 none, Cond.methodLink RX2 3 objectInit, Cond.fieldLink RX2 11 "ProofChecker$Reader" "bytes" "[I", Cond.fieldLink RX2 15 "ProofChecker$Reader" "count" "I", Cond.fieldLink RX2 19 "ProofChecker$Reader" "place" "I", Cond.fieldLink RX2 22 "ProofChecker$Reader" "grid" "LProofChecker$Grid;", Cond.fieldLink RX2 26 "ProofChecker$Reader" "lines" "LProofChecker$Lines;"]
def wsX5_init : List Cond := .code yX5_init cX5_init 5 none :: ((wsX5_init_r1 ++ (wsX5_init_r2 ++ (wsX5_init_r3 ++ wsX5_init_r4))) ++ wsX00 ++ wsX50 ++ wsX30 ++ wsX10 ++ wsX40 ++ wsX20)
def wsX5_rule : List Cond := .code yX5_rule cX5_rule 3 (some .int) :: ([.fieldLink RX5 23 "ProofChecker" "rules" "LProofChecker$Rules;", .methodLink RX5 54 yX3_append, .instanceMethod yX3_append, .selects RX3 yX3_append yX3_append, .initialized RX3, .code yX3_append cX3_append 3 (some .int), .fieldLink RX3 29 "ProofChecker$Rules" "count" "I", .fieldLink RX3 11 "ProofChecker$Rules" "kinds" "[I", .fieldLink RX3 15 "ProofChecker$Rules" "numbers" "[I"] ++ wsX50 ++ wsX30)
def wsX5_needRule : List Cond := .code yX5_needRule cX5_needRule 2 none :: ([.fieldLink RX5 23 "ProofChecker" "rules" "LProofChecker$Rules;", .classLink RX5 116 RJx00060, .instantiable RJx00060 6, .initialized RJx00060, .methodLink RX5 143 yX3_has, .instanceMethod yX3_has, .selects RX3 yX3_has yX3_has, .initialized RX3, .code yX3_has cX3_has 2 (some .boolean), .fieldLink RX3 29 "ProofChecker$Rules" "count" "I"] ++ wsX50 ++ wsJx000600 ++ wsX30)
def wsX5_needCell : List Cond := .code yX5_needCell cX5_needCell 2 none :: ([.fieldLink RX5 12 "ProofChecker" "grid" "LProofChecker$Grid;", .classLink RX5 116 RJx00060, .instantiable RJx00060 6, .initialized RJx00060, .methodLink RX5 148 yX0_hasCell, .instanceMethod yX0_hasCell, .selects RX0 yX0_hasCell yX0_hasCell, .initialized RX0, .code yX0_hasCell cX0_hasCell 2 (some .boolean), .fieldLink RX0 17 "ProofChecker$Grid" "cells" "I"] ++ wsX50 ++ wsJx000600 ++ wsX00)
def wsX5_into_r1 : List Cond := [Cond.fieldLink RX5 23 "ProofChecker" "rules" "LProofChecker$Rules;", Cond.methodLink RX5 58 yX5_needRule, Cond.instanceMethod yX5_needRule, Cond.selects RX5 yX5_needRule yX5_needRule, Cond.initialized RX5, Cond.code yX5_needRule cX5_needRule 2 none, Cond.classLink RX5 116 RJx00060, Cond.instantiable RJx00060 6, Cond.initialized RJx00060, Cond.methodLink RX5 143 yX3_has, Cond.instanceMethod yX3_has, Cond.selects RX3 yX3_has yX3_has, Cond.initialized RX3, Cond.code yX3_has cX3_has 2 (some .boolean), Cond.fieldLink RX3 29 "ProofChecker$Rules" "count" "I", Cond.methodLink RX5 62 yX5_needCell, Cond.instanceMethod yX5_needCell, Cond.selects RX5 yX5_needCell yX5_needCell, Cond.code yX5_needCell cX5_needCell 2 none, Cond.fieldLink RX5 12 "ProofChecker" "grid" "LProofChecker$Grid;", Cond.methodLink RX5 148 yX0_hasCell, Cond.instanceMethod yX0_hasCell, Cond.selects RX0 yX0_hasCell yX0_hasCell, Cond.initialized RX0]
def wsX5_into_r2 : List Cond := [Cond.code yX0_hasCell cX0_hasCell 2 (some .boolean), Cond.fieldLink RX0 17 "ProofChecker$Grid" "cells" "I", Cond.methodLink RX5 65 yX3_addCell, Cond.instanceMethod yX3_addCell, Cond.selects RX3 yX3_addCell yX3_addCell, Cond.code yX3_addCell cX3_addCell 5 (some .boolean), Cond.fieldLink RX3 18 "ProofChecker$Rules" "sizes" "[I", Cond.fieldLink RX3 21 "ProofChecker$Rules" "cells" "[I", Cond.methodLink RX3 37 yX3_cellAt, Cond.instanceMethod yX3_cellAt, Cond.selects RX3 yX3_cellAt yX3_cellAt, Cond.code yX3_cellAt cX3_cellAt 3 (some .int)]
def wsX5_into : List Cond := .code yX5_into cX5_into 3 (some .boolean) :: ((wsX5_into_r1 ++ wsX5_into_r2) ++ wsX50 ++ wsJx000600 ++ wsX30 ++ wsX00)
def wsX5_needSymbol : List Cond := .code yX5_needSymbol cX5_needSymbol 2 none :: ([.classLink RX5 156 "java/lang/IllegalArgumentException", .initialized "java/lang/IllegalArgumentException", .fieldLink RX5 12 "ProofChecker" "grid" "LProofChecker$Grid;", .methodLink RX5 153 yX0_hasSymbol, .instanceMethod yX0_hasSymbol, .selects RX0 yX0_hasSymbol yX0_hasSymbol, .initialized RX0, .code yX0_hasSymbol cX0_hasSymbol 2 (some .boolean), .fieldLink RX0 20 "ProofChecker$Grid" "symbols" "I"] ++ wsX50 ++ wsX00 ++ (vx_atS RX5 160 "java/lang/IllegalArgumentException" ["java/lang/RuntimeException", "java/lang/Exception"]).filter goodWord)
def wsX5_answer_r1 : List Cond := [Cond.fieldLink RX5 50 "ProofChecker" "said" "[I", Cond.methodLink RX5 62 yX5_needCell, Cond.instanceMethod yX5_needCell, Cond.selects RX5 yX5_needCell yX5_needCell, Cond.initialized RX5, Cond.code yX5_needCell cX5_needCell 2 none, Cond.fieldLink RX5 12 "ProofChecker" "grid" "LProofChecker$Grid;", Cond.classLink RX5 116 RJx00060, Cond.instantiable RJx00060 6, Cond.initialized RJx00060, Cond.methodLink RX5 148 yX0_hasCell, Cond.instanceMethod yX0_hasCell, Cond.selects RX0 yX0_hasCell yX0_hasCell, Cond.initialized RX0, Cond.code yX0_hasCell cX0_hasCell 2 (some .boolean), Cond.fieldLink RX0 17 "ProofChecker$Grid" "cells" "I", Cond.methodLink RX5 69 yX5_needSymbol, Cond.instanceMethod yX5_needSymbol, Cond.selects RX5 yX5_needSymbol yX5_needSymbol, Cond.code yX5_needSymbol cX5_needSymbol 2 none, Cond.classLink RX5 156 "java/lang/IllegalArgumentException", Cond.initialized "java/lang/IllegalArgumentException", Cond.methodLink RX5 153 yX0_hasSymbol, Cond.instanceMethod yX0_hasSymbol]
def wsX5_answer_r2 : List Cond := [Cond.selects RX0 yX0_hasSymbol yX0_hasSymbol, Cond.code yX0_hasSymbol cX0_hasSymbol 2 (some .boolean), Cond.fieldLink RX0 20 "ProofChecker$Grid" "symbols" "I"]
def wsX5_answer : List Cond := .code yX5_answer cX5_answer 3 (some .boolean) :: ((wsX5_answer_r1 ++ wsX5_answer_r2) ++ wsX50 ++ wsJx000600 ++ wsX00 ++ (vx_atS RX5 160 "java/lang/IllegalArgumentException" ["java/lang/RuntimeException", "java/lang/Exception"]).filter goodWord)
def wsX5_test_r1 : List Cond := [Cond.fieldLink RX5 23 "ProofChecker" "rules" "LProofChecker$Rules;", Cond.fieldLink RX5 50 "ProofChecker" "said" "[I", Cond.methodLink RX5 58 yX5_needRule, Cond.instanceMethod yX5_needRule, Cond.selects RX5 yX5_needRule yX5_needRule, Cond.initialized RX5, Cond.code yX5_needRule cX5_needRule 2 none, Cond.classLink RX5 116 RJx00060, Cond.instantiable RJx00060 6, Cond.initialized RJx00060, Cond.methodLink RX5 143 yX3_has, Cond.instanceMethod yX3_has, Cond.selects RX3 yX3_has yX3_has, Cond.initialized RX3, Cond.code yX3_has cX3_has 2 (some .boolean), Cond.fieldLink RX3 29 "ProofChecker$Rules" "count" "I", Cond.methodLink RX5 72 yX3_allSaid, Cond.instanceMethod yX3_allSaid, Cond.selects RX3 yX3_allSaid yX3_allSaid, Cond.code yX3_allSaid cX3_allSaid 4 (some .boolean), Cond.fieldLink RX3 18 "ProofChecker$Rules" "sizes" "[I", Cond.methodLink RX3 37 yX3_cellAt, Cond.instanceMethod yX3_cellAt, Cond.selects RX3 yX3_cellAt yX3_cellAt]
def wsX5_test_r2 : List Cond := [Cond.code yX3_cellAt cX3_cellAt 3 (some .int), Cond.fieldLink RX3 21 "ProofChecker$Rules" "cells" "[I", Cond.methodLink RX5 76 yX3_meets, Cond.instanceMethod yX3_meets, Cond.selects RX3 yX3_meets yX3_meets, Cond.code yX3_meets cX3_meets 3 (some .boolean), Cond.fieldLink RX3 11 "ProofChecker$Rules" "kinds" "[I", Cond.fieldLink RX3 15 "ProofChecker$Rules" "numbers" "[I", Cond.fieldLink RX3 33 "ProofChecker$Rules" "grid" "LProofChecker$Grid;", Cond.methodLink RX3 41 yX3_areUnlike, Cond.instanceMethod yX3_areUnlike, Cond.selects RX3 yX3_areUnlike yX3_areUnlike, Cond.code yX3_areUnlike cX3_areUnlike 6 (some .boolean), Cond.methodLink RX3 45 yX3_sum, Cond.instanceMethod yX3_sum, Cond.selects RX3 yX3_sum yX3_sum, Cond.code yX3_sum cX3_sum 5 (some .int), Cond.methodLink RX3 49 yX3_rise, Cond.instanceMethod yX3_rise, Cond.selects RX3 yX3_rise yX3_rise, Cond.code yX3_rise cX3_rise 4 (some .boolean), Cond.methodLink RX3 52 yX3_likeTheFirst, Cond.instanceMethod yX3_likeTheFirst, Cond.selects RX3 yX3_likeTheFirst yX3_likeTheFirst]
def wsX5_test_r3 : List Cond := [Cond.code yX3_likeTheFirst cX3_likeTheFirst 6 (some .int), Cond.methodLink RX3 55 yX3_cellsWithOne, Cond.instanceMethod yX3_cellsWithOne, Cond.selects RX3 yX3_cellsWithOne yX3_cellsWithOne, Cond.code yX3_cellsWithOne cX3_cellsWithOne 6 (some .int), Cond.methodLink RX3 58 yX0_hangTogether, Cond.instanceMethod yX0_hangTogether, Cond.selects RX0 yX0_hangTogether yX0_hangTogether, Cond.initialized RX0, Cond.code yX0_hangTogether cX0_hangTogether 4 (some .boolean), Cond.fieldLink RX0 17 "ProofChecker$Grid" "cells" "I", Cond.methodLink RX0 37 yX0_nextTo, Cond.instanceMethod yX0_nextTo, Cond.selects RX0 yX0_nextTo yX0_nextTo, Cond.code yX0_nextTo cX0_nextTo 5 (some .int), Cond.fieldLink RX0 13 "ProofChecker$Grid" "width" "I", Cond.fieldLink RX0 23 "ProofChecker$Grid" "leftEdge" "I", Cond.fieldLink RX0 26 "ProofChecker$Grid" "rightEdge" "I"]
def wsX5_test : List Cond := .code yX5_test cX5_test 2 (some .int) :: ((wsX5_test_r1 ++ (wsX5_test_r2 ++ wsX5_test_r3)) ++ wsX50 ++ wsJx000600 ++ wsX30 ++ wsX00)
def wsX5_fails_r1 : List Cond := [Cond.fieldLink RX5 23 "ProofChecker" "rules" "LProofChecker$Rules;", Cond.fieldLink RX5 50 "ProofChecker" "said" "[I", Cond.methodLink RX5 79 yX3_count, Cond.instanceMethod yX3_count, Cond.selects RX3 yX3_count yX3_count, Cond.initialized RX3, Cond.code yX3_count cX3_count 1 (some .int), Cond.fieldLink RX3 29 "ProofChecker$Rules" "count" "I", Cond.methodLink RX5 72 yX3_allSaid, Cond.instanceMethod yX3_allSaid, Cond.selects RX3 yX3_allSaid yX3_allSaid, Cond.code yX3_allSaid cX3_allSaid 4 (some .boolean), Cond.fieldLink RX3 18 "ProofChecker$Rules" "sizes" "[I", Cond.methodLink RX3 37 yX3_cellAt, Cond.instanceMethod yX3_cellAt, Cond.selects RX3 yX3_cellAt yX3_cellAt, Cond.code yX3_cellAt cX3_cellAt 3 (some .int), Cond.fieldLink RX3 21 "ProofChecker$Rules" "cells" "[I", Cond.methodLink RX5 76 yX3_meets, Cond.instanceMethod yX3_meets, Cond.selects RX3 yX3_meets yX3_meets, Cond.code yX3_meets cX3_meets 3 (some .boolean), Cond.fieldLink RX3 11 "ProofChecker$Rules" "kinds" "[I", Cond.fieldLink RX3 15 "ProofChecker$Rules" "numbers" "[I"]
def wsX5_fails_r2 : List Cond := [Cond.fieldLink RX3 33 "ProofChecker$Rules" "grid" "LProofChecker$Grid;", Cond.methodLink RX3 41 yX3_areUnlike, Cond.instanceMethod yX3_areUnlike, Cond.selects RX3 yX3_areUnlike yX3_areUnlike, Cond.code yX3_areUnlike cX3_areUnlike 6 (some .boolean), Cond.methodLink RX3 45 yX3_sum, Cond.instanceMethod yX3_sum, Cond.selects RX3 yX3_sum yX3_sum, Cond.code yX3_sum cX3_sum 5 (some .int), Cond.methodLink RX3 49 yX3_rise, Cond.instanceMethod yX3_rise, Cond.selects RX3 yX3_rise yX3_rise, Cond.code yX3_rise cX3_rise 4 (some .boolean), Cond.methodLink RX3 52 yX3_likeTheFirst, Cond.instanceMethod yX3_likeTheFirst, Cond.selects RX3 yX3_likeTheFirst yX3_likeTheFirst, Cond.code yX3_likeTheFirst cX3_likeTheFirst 6 (some .int), Cond.methodLink RX3 55 yX3_cellsWithOne, Cond.instanceMethod yX3_cellsWithOne, Cond.selects RX3 yX3_cellsWithOne yX3_cellsWithOne, Cond.code yX3_cellsWithOne cX3_cellsWithOne 6 (some .int), Cond.methodLink RX3 58 yX0_hangTogether, Cond.instanceMethod yX0_hangTogether, Cond.selects RX0 yX0_hangTogether yX0_hangTogether]
def wsX5_fails_r3 : List Cond := [Cond.initialized RX0, Cond.code yX0_hangTogether cX0_hangTogether 4 (some .boolean), Cond.fieldLink RX0 17 "ProofChecker$Grid" "cells" "I", Cond.methodLink RX0 37 yX0_nextTo, Cond.instanceMethod yX0_nextTo, Cond.selects RX0 yX0_nextTo yX0_nextTo, Cond.code yX0_nextTo cX0_nextTo 5 (some .int), Cond.fieldLink RX0 13 "ProofChecker$Grid" "width" "I", Cond.fieldLink RX0 23 "ProofChecker$Grid" "leftEdge" "I", Cond.fieldLink RX0 26 "ProofChecker$Grid" "rightEdge" "I"]
def wsX5_fails : List Cond := .code yX5_fails cX5_fails 2 (some .int) :: ((wsX5_fails_r1 ++ (wsX5_fails_r2 ++ wsX5_fails_r3)) ++ wsX50 ++ wsX30 ++ wsX00)
def wsX5_line : List Cond := .code yX5_line cX5_line 3 (some .int) :: ([.fieldLink RX5 30 "ProofChecker" "lines" "LProofChecker$Lines;", .methodLink RX5 83 yX1_isFull, .instanceMethod yX1_isFull, .selects RX1 yX1_isFull yX1_isFull, .initialized RX1, .code yX1_isFull cX1_isFull 1 (some .boolean), .fieldLink RX1 22 "ProofChecker$Lines" "count" "I", .methodLink RX5 87 yX1_startDraft, .instanceMethod yX1_startDraft, .selects RX1 yX1_startDraft yX1_startDraft, .code yX1_startDraft cX1_startDraft 3 none, .fieldLink RX1 9 "ProofChecker$Lines" "kinds" "[I", .fieldLink RX1 13 "ProofChecker$Lines" "numbers" "[I", .fieldLink RX1 16 "ProofChecker$Lines" "sizes" "[I", .methodLink RX5 91 yX1_keepDraft, .instanceMethod yX1_keepDraft, .selects RX1 yX1_keepDraft yX1_keepDraft, .code yX1_keepDraft cX1_keepDraft 1 (some .boolean), .methodLink RX1 26 yX1_isFull, .methodLink RX5 94 yX1_count, .instanceMethod yX1_count, .selects RX1 yX1_count yX1_count, .code yX1_count cX1_count 1 (some .int)] ++ wsX50 ++ wsX10)
def wsX5_literal_r1 : List Cond := [Cond.fieldLink RX5 30 "ProofChecker" "lines" "LProofChecker$Lines;", Cond.methodLink RX5 62 yX5_needCell, Cond.instanceMethod yX5_needCell, Cond.selects RX5 yX5_needCell yX5_needCell, Cond.initialized RX5, Cond.code yX5_needCell cX5_needCell 2 none, Cond.fieldLink RX5 12 "ProofChecker" "grid" "LProofChecker$Grid;", Cond.classLink RX5 116 RJx00060, Cond.instantiable RJx00060 6, Cond.initialized RJx00060, Cond.methodLink RX5 148 yX0_hasCell, Cond.instanceMethod yX0_hasCell, Cond.selects RX0 yX0_hasCell yX0_hasCell, Cond.initialized RX0, Cond.code yX0_hasCell cX0_hasCell 2 (some .boolean), Cond.fieldLink RX0 17 "ProofChecker$Grid" "cells" "I", Cond.methodLink RX5 69 yX5_needSymbol, Cond.instanceMethod yX5_needSymbol, Cond.selects RX5 yX5_needSymbol yX5_needSymbol, Cond.code yX5_needSymbol cX5_needSymbol 2 none, Cond.classLink RX5 156 "java/lang/IllegalArgumentException", Cond.initialized "java/lang/IllegalArgumentException", Cond.methodLink RX5 153 yX0_hasSymbol, Cond.instanceMethod yX0_hasSymbol]
def wsX5_literal_r2 : List Cond := [Cond.selects RX0 yX0_hasSymbol yX0_hasSymbol, Cond.code yX0_hasSymbol cX0_hasSymbol 2 (some .boolean), Cond.fieldLink RX0 20 "ProofChecker$Grid" "symbols" "I", Cond.methodLink RX5 94 yX1_count, Cond.instanceMethod yX1_count, Cond.selects RX1 yX1_count yX1_count, Cond.initialized RX1, Cond.code yX1_count cX1_count 1 (some .int), Cond.fieldLink RX1 22 "ProofChecker$Lines" "count" "I", Cond.methodLink RX5 95 yX1_literalOf, Cond.static yX1_literalOf, Cond.code yX1_literalOf cX1_literalOf 3 (some .int), Cond.methodLink RX5 99 yX1_addLiteral, Cond.instanceMethod yX1_addLiteral, Cond.selects RX1 yX1_addLiteral yX1_addLiteral, Cond.code yX1_addLiteral cX1_addLiteral 5 (some .boolean), Cond.fieldLink RX1 16 "ProofChecker$Lines" "sizes" "[I", Cond.fieldLink RX1 19 "ProofChecker$Lines" "literals" "[I", Cond.methodLink RX1 30 yX1_isFullOfLiterals, Cond.instanceMethod yX1_isFullOfLiterals, Cond.selects RX1 yX1_isFullOfLiterals yX1_isFullOfLiterals, Cond.code yX1_isFullOfLiterals cX1_isFullOfLiterals 2 (some .boolean), Cond.methodLink RX1 34 yX1_literalAt, Cond.instanceMethod yX1_literalAt]
def wsX5_literal_r3 : List Cond := [Cond.selects RX1 yX1_literalAt yX1_literalAt, Cond.code yX1_literalAt cX1_literalAt 3 (some .int)]
def wsX5_literal : List Cond := .code yX5_literal cX5_literal 4 (some .boolean) :: ((wsX5_literal_r1 ++ (wsX5_literal_r2 ++ wsX5_literal_r3)) ++ wsX50 ++ wsJx000600 ++ wsX00 ++ wsX10 ++ (vx_atS RX5 160 "java/lang/IllegalArgumentException" ["java/lang/RuntimeException", "java/lang/Exception"]).filter goodWord)
def wsX5_drop : List Cond := .code yX5_drop cX5_drop 1 (some .boolean) :: ([.fieldLink RX5 30 "ProofChecker" "lines" "LProofChecker$Lines;", .methodLink RX5 94 yX1_count, .instanceMethod yX1_count, .selects RX1 yX1_count yX1_count, .initialized RX1, .code yX1_count cX1_count 1 (some .int), .fieldLink RX1 22 "ProofChecker$Lines" "count" "I", .methodLink RX5 102 yX1_cutTo, .instanceMethod yX1_cutTo, .selects RX1 yX1_cutTo yX1_cutTo, .code yX1_cutTo cX1_cutTo 2 none] ++ wsX50 ++ wsX10)
def wsX5_isByRule_r1 : List Cond := [Cond.fieldLink RX5 23 "ProofChecker" "rules" "LProofChecker$Rules;", Cond.fieldLink RX5 39 "ProofChecker" "units" "LProofChecker$Units;", Cond.methodLink RX5 188 yX3_canBeTried, Cond.instanceMethod yX3_canBeTried, Cond.selects RX3 yX3_canBeTried yX3_canBeTried, Cond.initialized RX3, Cond.code yX3_canBeTried cX3_canBeTried 4 (some .boolean), Cond.fieldLink RX3 18 "ProofChecker$Rules" "sizes" "[I", Cond.fieldLink RX3 33 "ProofChecker$Rules" "grid" "LProofChecker$Grid;", Cond.methodLink RX3 62 yX0_symbols, Cond.instanceMethod yX0_symbols, Cond.selects RX0 yX0_symbols yX0_symbols, Cond.initialized RX0, Cond.code yX0_symbols cX0_symbols 1 (some .int), Cond.fieldLink RX0 20 "ProofChecker$Grid" "symbols" "I", Cond.methodLink RX5 191 yX4_turnRound, Cond.instanceMethod yX4_turnRound, Cond.selects RX4 yX4_turnRound yX4_turnRound, Cond.initialized RX4, Cond.code yX4_turnRound cX4_turnRound 4 none, Cond.fieldLink RX4 24 "ProofChecker$Units" "lines" "LProofChecker$Lines;", Cond.methodLink RX4 35 yX4_startWhole, Cond.instanceMethod yX4_startWhole, Cond.selects RX4 yX4_startWhole yX4_startWhole]
def wsX5_isByRule_r2 : List Cond := [Cond.code yX4_startWhole cX4_startWhole 2 none, Cond.fieldLink RX4 20 "ProofChecker$Units" "grid" "LProofChecker$Grid;", Cond.fieldLink RX4 11 "ProofChecker$Units" "symbols" "[I", Cond.methodLink RX4 28 yX0_cells, Cond.instanceMethod yX0_cells, Cond.selects RX0 yX0_cells yX0_cells, Cond.code yX0_cells cX0_cells 1 (some .int), Cond.fieldLink RX0 17 "ProofChecker$Grid" "cells" "I", Cond.methodLink RX4 32 yX0_allSymbols, Cond.instanceMethod yX0_allSymbols, Cond.selects RX0 yX0_allSymbols yX0_allSymbols, Cond.code yX0_allSymbols cX0_allSymbols 1 (some .int), Cond.methodLink RX4 38 yX1_sizeOf, Cond.instanceMethod yX1_sizeOf, Cond.selects RX1 yX1_sizeOf yX1_sizeOf, Cond.initialized RX1, Cond.code yX1_sizeOf cX1_sizeOf 2 (some .int), Cond.fieldLink RX1 16 "ProofChecker$Lines" "sizes" "[I", Cond.methodLink RX4 44 yX1_literalAt, Cond.instanceMethod yX1_literalAt, Cond.selects RX1 yX1_literalAt yX1_literalAt, Cond.code yX1_literalAt cX1_literalAt 3 (some .int), Cond.fieldLink RX1 19 "ProofChecker$Lines" "literals" "[I", Cond.methodLink RX4 48 yX1_saysIs]
def wsX5_isByRule_r3 : List Cond := [Cond.static yX1_saysIs, Cond.code yX1_saysIs cX1_saysIs 1 (some .boolean), Cond.methodLink RX4 52 yX4_narrow, Cond.instanceMethod yX4_narrow, Cond.selects RX4 yX4_narrow yX4_narrow, Cond.code yX4_narrow cX4_narrow 5 none, Cond.methodLink RX4 56 yX1_cellOf, Cond.static yX1_cellOf, Cond.code yX1_cellOf cX1_cellOf 1 (some .int), Cond.methodLink RX4 59 yX1_symbolOf, Cond.static yX1_symbolOf, Cond.code yX1_symbolOf cX1_symbolOf 1 (some .int), Cond.instanceMethod yX3_canBeMet, Cond.selects RX3 yX3_canBeMet yX3_canBeMet, Cond.code yX3_canBeMet cX3_canBeMet 7 (some .boolean), Cond.fieldLink RX3 26 "ProofChecker$Rules" "tried" "[I", Cond.methodLink RX3 66 yX3_meets, Cond.instanceMethod yX3_meets, Cond.selects RX3 yX3_meets yX3_meets, Cond.code yX3_meets cX3_meets 3 (some .boolean), Cond.fieldLink RX3 11 "ProofChecker$Rules" "kinds" "[I", Cond.fieldLink RX3 15 "ProofChecker$Rules" "numbers" "[I", Cond.methodLink RX3 41 yX3_areUnlike, Cond.instanceMethod yX3_areUnlike]
def wsX5_isByRule_r4 : List Cond := [Cond.selects RX3 yX3_areUnlike yX3_areUnlike, Cond.code yX3_areUnlike cX3_areUnlike 6 (some .boolean), Cond.methodLink RX3 37 yX3_cellAt, Cond.instanceMethod yX3_cellAt, Cond.selects RX3 yX3_cellAt yX3_cellAt, Cond.code yX3_cellAt cX3_cellAt 3 (some .int), Cond.fieldLink RX3 21 "ProofChecker$Rules" "cells" "[I", Cond.methodLink RX3 45 yX3_sum, Cond.instanceMethod yX3_sum, Cond.selects RX3 yX3_sum yX3_sum, Cond.code yX3_sum cX3_sum 5 (some .int), Cond.methodLink RX3 49 yX3_rise, Cond.instanceMethod yX3_rise, Cond.selects RX3 yX3_rise yX3_rise, Cond.code yX3_rise cX3_rise 4 (some .boolean), Cond.methodLink RX3 52 yX3_likeTheFirst, Cond.instanceMethod yX3_likeTheFirst, Cond.selects RX3 yX3_likeTheFirst yX3_likeTheFirst, Cond.code yX3_likeTheFirst cX3_likeTheFirst 6 (some .int), Cond.methodLink RX3 55 yX3_cellsWithOne, Cond.instanceMethod yX3_cellsWithOne, Cond.selects RX3 yX3_cellsWithOne yX3_cellsWithOne, Cond.code yX3_cellsWithOne cX3_cellsWithOne 6 (some .int), Cond.methodLink RX3 58 yX0_hangTogether]
def wsX5_isByRule_r5 : List Cond := [Cond.instanceMethod yX0_hangTogether, Cond.selects RX0 yX0_hangTogether yX0_hangTogether, Cond.code yX0_hangTogether cX0_hangTogether 4 (some .boolean), Cond.methodLink RX0 37 yX0_nextTo, Cond.instanceMethod yX0_nextTo, Cond.selects RX0 yX0_nextTo yX0_nextTo, Cond.code yX0_nextTo cX0_nextTo 5 (some .int), Cond.fieldLink RX0 13 "ProofChecker$Grid" "width" "I", Cond.fieldLink RX0 23 "ProofChecker$Grid" "leftEdge" "I", Cond.fieldLink RX0 26 "ProofChecker$Grid" "rightEdge" "I", Cond.methodLink RX3 69 yX4_symbolsOf, Cond.instanceMethod yX4_symbolsOf, Cond.selects RX4 yX4_symbolsOf yX4_symbolsOf, Cond.code yX4_symbolsOf cX4_symbolsOf 2 (some .int), Cond.methodLink RX3 75 yX3_canBeMet]
def wsX5_isByRule : List Cond := .code yX5_isByRule cX5_isByRule 3 (some .boolean) :: ((wsX5_isByRule_r1 ++ (wsX5_isByRule_r2 ++ (wsX5_isByRule_r3 ++ (wsX5_isByRule_r4 ++ wsX5_isByRule_r5)))) ++ wsX50 ++ wsX30 ++ wsX00 ++ wsX40 ++ wsX10)
def wsX5_deniesOnlyWhatIsSaid : List Cond := .code yX5_deniesOnlyWhatIsSaid cX5_deniesOnlyWhatIsSaid 4 (some .boolean) :: ([.fieldLink RX5 30 "ProofChecker" "lines" "LProofChecker$Lines;", .fieldLink RX5 50 "ProofChecker" "said" "[I", .methodLink RX5 109 yX1_sizeOf, .instanceMethod yX1_sizeOf, .selects RX1 yX1_sizeOf yX1_sizeOf, .initialized RX1, .code yX1_sizeOf cX1_sizeOf 2 (some .int), .fieldLink RX1 16 "ProofChecker$Lines" "sizes" "[I", .methodLink RX5 161 yX1_literalAt, .instanceMethod yX1_literalAt, .selects RX1 yX1_literalAt yX1_literalAt, .code yX1_literalAt cX1_literalAt 3 (some .int), .fieldLink RX1 19 "ProofChecker$Lines" "literals" "[I", .methodLink RX5 173 yX1_saysIs, .static yX1_saysIs, .code yX1_saysIs cX1_saysIs 1 (some .boolean), .methodLink RX5 167 yX1_cellOf, .static yX1_cellOf, .code yX1_cellOf cX1_cellOf 1 (some .int), .methodLink RX5 170 yX1_symbolOf, .static yX1_symbolOf, .code yX1_symbolOf cX1_symbolOf 1 (some .int)] ++ wsX50 ++ wsX10)
def wsX5_isBarred_r1 : List Cond := [Cond.fieldLink RX5 30 "ProofChecker" "lines" "LProofChecker$Lines;", Cond.fieldLink RX5 12 "ProofChecker" "grid" "LProofChecker$Grid;", Cond.methodLink RX5 109 yX1_sizeOf, Cond.instanceMethod yX1_sizeOf, Cond.selects RX1 yX1_sizeOf yX1_sizeOf, Cond.initialized RX1, Cond.code yX1_sizeOf cX1_sizeOf 2 (some .int), Cond.fieldLink RX1 16 "ProofChecker$Lines" "sizes" "[I", Cond.methodLink RX5 198 yX0_cells, Cond.instanceMethod yX0_cells, Cond.selects RX0 yX0_cells yX0_cells, Cond.initialized RX0, Cond.code yX0_cells cX0_cells 1 (some .int), Cond.fieldLink RX0 17 "ProofChecker$Grid" "cells" "I", Cond.methodLink RX5 201 yX5_deniesOnlyWhatIsSaid, Cond.instanceMethod yX5_deniesOnlyWhatIsSaid, Cond.selects RX5 yX5_deniesOnlyWhatIsSaid yX5_deniesOnlyWhatIsSaid, Cond.initialized RX5, Cond.code yX5_deniesOnlyWhatIsSaid cX5_deniesOnlyWhatIsSaid 4 (some .boolean), Cond.fieldLink RX5 50 "ProofChecker" "said" "[I", Cond.methodLink RX5 161 yX1_literalAt, Cond.instanceMethod yX1_literalAt, Cond.selects RX1 yX1_literalAt yX1_literalAt, Cond.code yX1_literalAt cX1_literalAt 3 (some .int)]
def wsX5_isBarred_r2 : List Cond := [Cond.fieldLink RX1 19 "ProofChecker$Lines" "literals" "[I", Cond.methodLink RX5 173 yX1_saysIs, Cond.static yX1_saysIs, Cond.code yX1_saysIs cX1_saysIs 1 (some .boolean), Cond.methodLink RX5 167 yX1_cellOf, Cond.static yX1_cellOf, Cond.code yX1_cellOf cX1_cellOf 1 (some .int), Cond.methodLink RX5 170 yX1_symbolOf, Cond.static yX1_symbolOf, Cond.code yX1_symbolOf cX1_symbolOf 1 (some .int), Cond.methodLink RX5 204 yX5_fails, Cond.instanceMethod yX5_fails, Cond.selects RX5 yX5_fails yX5_fails, Cond.code yX5_fails cX5_fails 2 (some .int), Cond.fieldLink RX5 23 "ProofChecker" "rules" "LProofChecker$Rules;", Cond.methodLink RX5 79 yX3_count, Cond.instanceMethod yX3_count, Cond.selects RX3 yX3_count yX3_count, Cond.initialized RX3, Cond.code yX3_count cX3_count 1 (some .int), Cond.fieldLink RX3 29 "ProofChecker$Rules" "count" "I", Cond.methodLink RX5 72 yX3_allSaid, Cond.instanceMethod yX3_allSaid, Cond.selects RX3 yX3_allSaid yX3_allSaid]
def wsX5_isBarred_r3 : List Cond := [Cond.code yX3_allSaid cX3_allSaid 4 (some .boolean), Cond.fieldLink RX3 18 "ProofChecker$Rules" "sizes" "[I", Cond.methodLink RX3 37 yX3_cellAt, Cond.instanceMethod yX3_cellAt, Cond.selects RX3 yX3_cellAt yX3_cellAt, Cond.code yX3_cellAt cX3_cellAt 3 (some .int), Cond.fieldLink RX3 21 "ProofChecker$Rules" "cells" "[I", Cond.methodLink RX5 76 yX3_meets, Cond.instanceMethod yX3_meets, Cond.selects RX3 yX3_meets yX3_meets, Cond.code yX3_meets cX3_meets 3 (some .boolean), Cond.fieldLink RX3 11 "ProofChecker$Rules" "kinds" "[I", Cond.fieldLink RX3 15 "ProofChecker$Rules" "numbers" "[I", Cond.fieldLink RX3 33 "ProofChecker$Rules" "grid" "LProofChecker$Grid;", Cond.methodLink RX3 41 yX3_areUnlike, Cond.instanceMethod yX3_areUnlike, Cond.selects RX3 yX3_areUnlike yX3_areUnlike, Cond.code yX3_areUnlike cX3_areUnlike 6 (some .boolean), Cond.methodLink RX3 45 yX3_sum, Cond.instanceMethod yX3_sum, Cond.selects RX3 yX3_sum yX3_sum, Cond.code yX3_sum cX3_sum 5 (some .int), Cond.methodLink RX3 49 yX3_rise, Cond.instanceMethod yX3_rise]
def wsX5_isBarred_r4 : List Cond := [Cond.selects RX3 yX3_rise yX3_rise, Cond.code yX3_rise cX3_rise 4 (some .boolean), Cond.methodLink RX3 52 yX3_likeTheFirst, Cond.instanceMethod yX3_likeTheFirst, Cond.selects RX3 yX3_likeTheFirst yX3_likeTheFirst, Cond.code yX3_likeTheFirst cX3_likeTheFirst 6 (some .int), Cond.methodLink RX3 55 yX3_cellsWithOne, Cond.instanceMethod yX3_cellsWithOne, Cond.selects RX3 yX3_cellsWithOne yX3_cellsWithOne, Cond.code yX3_cellsWithOne cX3_cellsWithOne 6 (some .int), Cond.methodLink RX3 58 yX0_hangTogether, Cond.instanceMethod yX0_hangTogether, Cond.selects RX0 yX0_hangTogether yX0_hangTogether, Cond.code yX0_hangTogether cX0_hangTogether 4 (some .boolean), Cond.methodLink RX0 37 yX0_nextTo, Cond.instanceMethod yX0_nextTo, Cond.selects RX0 yX0_nextTo yX0_nextTo, Cond.code yX0_nextTo cX0_nextTo 5 (some .int), Cond.fieldLink RX0 13 "ProofChecker$Grid" "width" "I", Cond.fieldLink RX0 23 "ProofChecker$Grid" "leftEdge" "I", Cond.fieldLink RX0 26 "ProofChecker$Grid" "rightEdge" "I"]
def wsX5_isBarred : List Cond := .code yX5_isBarred cX5_isBarred 2 (some .boolean) :: ((wsX5_isBarred_r1 ++ (wsX5_isBarred_r2 ++ (wsX5_isBarred_r3 ++ wsX5_isBarred_r4))) ++ wsX50 ++ wsX10 ++ wsX00 ++ wsX30)
def wsX5_followsFromLinesAhead_r1 : List Cond := [Cond.fieldLink RX5 30 "ProofChecker" "lines" "LProofChecker$Lines;", Cond.fieldLink RX5 23 "ProofChecker" "rules" "LProofChecker$Rules;", Cond.fieldLink RX5 39 "ProofChecker" "units" "LProofChecker$Units;", Cond.fieldLink RX5 12 "ProofChecker" "grid" "LProofChecker$Grid;", Cond.methodLink RX5 123 yX1_numberOf, Cond.instanceMethod yX1_numberOf, Cond.selects RX1 yX1_numberOf yX1_numberOf, Cond.initialized RX1, Cond.code yX1_numberOf cX1_numberOf 2 (some .int), Cond.fieldLink RX1 13 "ProofChecker$Lines" "numbers" "[I", Cond.methodLink RX5 113 yX1_kindOf, Cond.instanceMethod yX1_kindOf, Cond.selects RX1 yX1_kindOf yX1_kindOf, Cond.code yX1_kindOf cX1_kindOf 2 (some .int), Cond.fieldLink RX1 9 "ProofChecker$Lines" "kinds" "[I", Cond.methodLink RX5 143 yX3_has, Cond.instanceMethod yX3_has, Cond.selects RX3 yX3_has yX3_has, Cond.initialized RX3, Cond.code yX3_has cX3_has 2 (some .boolean), Cond.fieldLink RX3 29 "ProofChecker$Rules" "count" "I", Cond.methodLink RX5 176 yX5_isByRule, Cond.instanceMethod yX5_isByRule, Cond.selects RX5 yX5_isByRule yX5_isByRule]
def wsX5_followsFromLinesAhead_r2 : List Cond := [Cond.initialized RX5, Cond.code yX5_isByRule cX5_isByRule 3 (some .boolean), Cond.methodLink RX5 188 yX3_canBeTried, Cond.instanceMethod yX3_canBeTried, Cond.selects RX3 yX3_canBeTried yX3_canBeTried, Cond.code yX3_canBeTried cX3_canBeTried 4 (some .boolean), Cond.fieldLink RX3 18 "ProofChecker$Rules" "sizes" "[I", Cond.fieldLink RX3 33 "ProofChecker$Rules" "grid" "LProofChecker$Grid;", Cond.methodLink RX3 62 yX0_symbols, Cond.instanceMethod yX0_symbols, Cond.selects RX0 yX0_symbols yX0_symbols, Cond.initialized RX0, Cond.code yX0_symbols cX0_symbols 1 (some .int), Cond.fieldLink RX0 20 "ProofChecker$Grid" "symbols" "I", Cond.methodLink RX5 191 yX4_turnRound, Cond.instanceMethod yX4_turnRound, Cond.selects RX4 yX4_turnRound yX4_turnRound, Cond.initialized RX4, Cond.code yX4_turnRound cX4_turnRound 4 none, Cond.fieldLink RX4 24 "ProofChecker$Units" "lines" "LProofChecker$Lines;", Cond.methodLink RX4 35 yX4_startWhole, Cond.instanceMethod yX4_startWhole, Cond.selects RX4 yX4_startWhole yX4_startWhole, Cond.code yX4_startWhole cX4_startWhole 2 none]
def wsX5_followsFromLinesAhead_r3 : List Cond := [Cond.fieldLink RX4 20 "ProofChecker$Units" "grid" "LProofChecker$Grid;", Cond.fieldLink RX4 11 "ProofChecker$Units" "symbols" "[I", Cond.methodLink RX4 28 yX0_cells, Cond.instanceMethod yX0_cells, Cond.selects RX0 yX0_cells yX0_cells, Cond.code yX0_cells cX0_cells 1 (some .int), Cond.fieldLink RX0 17 "ProofChecker$Grid" "cells" "I", Cond.methodLink RX4 32 yX0_allSymbols, Cond.instanceMethod yX0_allSymbols, Cond.selects RX0 yX0_allSymbols yX0_allSymbols, Cond.code yX0_allSymbols cX0_allSymbols 1 (some .int), Cond.methodLink RX4 38 yX1_sizeOf, Cond.instanceMethod yX1_sizeOf, Cond.selects RX1 yX1_sizeOf yX1_sizeOf, Cond.code yX1_sizeOf cX1_sizeOf 2 (some .int), Cond.fieldLink RX1 16 "ProofChecker$Lines" "sizes" "[I", Cond.methodLink RX4 44 yX1_literalAt, Cond.instanceMethod yX1_literalAt, Cond.selects RX1 yX1_literalAt yX1_literalAt, Cond.code yX1_literalAt cX1_literalAt 3 (some .int), Cond.fieldLink RX1 19 "ProofChecker$Lines" "literals" "[I", Cond.methodLink RX4 48 yX1_saysIs, Cond.static yX1_saysIs, Cond.code yX1_saysIs cX1_saysIs 1 (some .boolean)]
def wsX5_followsFromLinesAhead_r4 : List Cond := [Cond.methodLink RX4 52 yX4_narrow, Cond.instanceMethod yX4_narrow, Cond.selects RX4 yX4_narrow yX4_narrow, Cond.code yX4_narrow cX4_narrow 5 none, Cond.methodLink RX4 56 yX1_cellOf, Cond.static yX1_cellOf, Cond.code yX1_cellOf cX1_cellOf 1 (some .int), Cond.methodLink RX4 59 yX1_symbolOf, Cond.static yX1_symbolOf, Cond.code yX1_symbolOf cX1_symbolOf 1 (some .int), Cond.instanceMethod yX3_canBeMet, Cond.selects RX3 yX3_canBeMet yX3_canBeMet, Cond.code yX3_canBeMet cX3_canBeMet 7 (some .boolean), Cond.fieldLink RX3 26 "ProofChecker$Rules" "tried" "[I", Cond.methodLink RX3 66 yX3_meets, Cond.instanceMethod yX3_meets, Cond.selects RX3 yX3_meets yX3_meets, Cond.code yX3_meets cX3_meets 3 (some .boolean), Cond.fieldLink RX3 11 "ProofChecker$Rules" "kinds" "[I", Cond.fieldLink RX3 15 "ProofChecker$Rules" "numbers" "[I", Cond.methodLink RX3 41 yX3_areUnlike, Cond.instanceMethod yX3_areUnlike, Cond.selects RX3 yX3_areUnlike yX3_areUnlike, Cond.code yX3_areUnlike cX3_areUnlike 6 (some .boolean)]
def wsX5_followsFromLinesAhead_r5 : List Cond := [Cond.methodLink RX3 37 yX3_cellAt, Cond.instanceMethod yX3_cellAt, Cond.selects RX3 yX3_cellAt yX3_cellAt, Cond.code yX3_cellAt cX3_cellAt 3 (some .int), Cond.fieldLink RX3 21 "ProofChecker$Rules" "cells" "[I", Cond.methodLink RX3 45 yX3_sum, Cond.instanceMethod yX3_sum, Cond.selects RX3 yX3_sum yX3_sum, Cond.code yX3_sum cX3_sum 5 (some .int), Cond.methodLink RX3 49 yX3_rise, Cond.instanceMethod yX3_rise, Cond.selects RX3 yX3_rise yX3_rise, Cond.code yX3_rise cX3_rise 4 (some .boolean), Cond.methodLink RX3 52 yX3_likeTheFirst, Cond.instanceMethod yX3_likeTheFirst, Cond.selects RX3 yX3_likeTheFirst yX3_likeTheFirst, Cond.code yX3_likeTheFirst cX3_likeTheFirst 6 (some .int), Cond.methodLink RX3 55 yX3_cellsWithOne, Cond.instanceMethod yX3_cellsWithOne, Cond.selects RX3 yX3_cellsWithOne yX3_cellsWithOne, Cond.code yX3_cellsWithOne cX3_cellsWithOne 6 (some .int), Cond.methodLink RX3 58 yX0_hangTogether, Cond.instanceMethod yX0_hangTogether, Cond.selects RX0 yX0_hangTogether yX0_hangTogether]
def wsX5_followsFromLinesAhead_r6 : List Cond := [Cond.code yX0_hangTogether cX0_hangTogether 4 (some .boolean), Cond.methodLink RX0 37 yX0_nextTo, Cond.instanceMethod yX0_nextTo, Cond.selects RX0 yX0_nextTo yX0_nextTo, Cond.code yX0_nextTo cX0_nextTo 5 (some .int), Cond.fieldLink RX0 13 "ProofChecker$Grid" "width" "I", Cond.fieldLink RX0 23 "ProofChecker$Grid" "leftEdge" "I", Cond.fieldLink RX0 26 "ProofChecker$Grid" "rightEdge" "I", Cond.methodLink RX3 69 yX4_symbolsOf, Cond.instanceMethod yX4_symbolsOf, Cond.selects RX4 yX4_symbolsOf yX4_symbolsOf, Cond.code yX4_symbolsOf cX4_symbolsOf 2 (some .int), Cond.methodLink RX3 75 yX3_canBeMet, Cond.methodLink RX5 179 yX4_refute, Cond.instanceMethod yX4_refute, Cond.selects RX4 yX4_refute yX4_refute, Cond.code yX4_refute cX4_refute 2 (some .boolean), Cond.methodLink RX4 62 yX4_turnRound, Cond.methodLink RX4 66 yX4_comeToNothing, Cond.instanceMethod yX4_comeToNothing, Cond.selects RX4 yX4_comeToNothing yX4_comeToNothing, Cond.code yX4_comeToNothing cX4_comeToNothing 6 (some .boolean), Cond.methodLink RX4 80 yX4_someCellMayBeNothing, Cond.instanceMethod yX4_someCellMayBeNothing]
def wsX5_followsFromLinesAhead_r7 : List Cond := [Cond.selects RX4 yX4_someCellMayBeNothing yX4_someCellMayBeNothing, Cond.code yX4_someCellMayBeNothing cX4_someCellMayBeNothing 2 (some .boolean), Cond.methodLink RX4 78 yX0_symbols, Cond.methodLink RX4 84 yX4_stepBy, Cond.instanceMethod yX4_stepBy, Cond.selects RX4 yX4_stepBy yX4_stepBy, Cond.code yX4_stepBy cX4_stepBy 6 (some .int), Cond.methodLink RX4 87 yX4_stateOf, Cond.instanceMethod yX4_stateOf, Cond.selects RX4 yX4_stateOf yX4_stateOf, Cond.code yX4_stateOf cX4_stateOf 4 (some .int), Cond.methodLink RX5 148 yX0_hasCell, Cond.instanceMethod yX0_hasCell, Cond.selects RX0 yX0_hasCell yX0_hasCell, Cond.code yX0_hasCell cX0_hasCell 2 (some .boolean), Cond.methodLink RX5 182 yX4_refuteBySplit, Cond.instanceMethod yX4_refuteBySplit, Cond.selects RX4 yX4_refuteBySplit yX4_refuteBySplit, Cond.code yX4_refuteBySplit cX4_refuteBySplit 5 (some .boolean), Cond.fieldLink RX4 17 "ProofChecker$Units" "beforeSplit" "[I", Cond.methodLink RX4 72 arraycopyName, Cond.native arraycopyName, Cond.static arraycopyName, Cond.initialized "java/lang/System"]
def wsX5_followsFromLinesAhead_r8 : List Cond := [Cond.methodLink RX4 69 yX4_refute, Cond.methodLink RX5 185 yX5_isBarred, Cond.instanceMethod yX5_isBarred, Cond.selects RX5 yX5_isBarred yX5_isBarred, Cond.code yX5_isBarred cX5_isBarred 2 (some .boolean), Cond.methodLink RX5 109 yX1_sizeOf, Cond.methodLink RX5 198 yX0_cells, Cond.methodLink RX5 201 yX5_deniesOnlyWhatIsSaid, Cond.instanceMethod yX5_deniesOnlyWhatIsSaid, Cond.selects RX5 yX5_deniesOnlyWhatIsSaid yX5_deniesOnlyWhatIsSaid, Cond.code yX5_deniesOnlyWhatIsSaid cX5_deniesOnlyWhatIsSaid 4 (some .boolean), Cond.fieldLink RX5 50 "ProofChecker" "said" "[I", Cond.methodLink RX5 161 yX1_literalAt, Cond.methodLink RX5 173 yX1_saysIs, Cond.methodLink RX5 167 yX1_cellOf, Cond.methodLink RX5 170 yX1_symbolOf, Cond.methodLink RX5 204 yX5_fails, Cond.instanceMethod yX5_fails, Cond.selects RX5 yX5_fails yX5_fails, Cond.code yX5_fails cX5_fails 2 (some .int), Cond.methodLink RX5 79 yX3_count, Cond.instanceMethod yX3_count, Cond.selects RX3 yX3_count yX3_count, Cond.code yX3_count cX3_count 1 (some .int)]
def wsX5_followsFromLinesAhead_r9 : List Cond := [Cond.methodLink RX5 72 yX3_allSaid, Cond.instanceMethod yX3_allSaid, Cond.selects RX3 yX3_allSaid yX3_allSaid, Cond.code yX3_allSaid cX3_allSaid 4 (some .boolean), Cond.methodLink RX5 76 yX3_meets]
def wsX5_followsFromLinesAhead : List Cond := .code yX5_followsFromLinesAhead cX5_followsFromLinesAhead 3 (some .boolean) :: ((wsX5_followsFromLinesAhead_r1 ++ (wsX5_followsFromLinesAhead_r2 ++ (wsX5_followsFromLinesAhead_r3 ++ (wsX5_followsFromLinesAhead_r4 ++ (wsX5_followsFromLinesAhead_r5 ++ (wsX5_followsFromLinesAhead_r6 ++ (wsX5_followsFromLinesAhead_r7 ++ (wsX5_followsFromLinesAhead_r8 ++ wsX5_followsFromLinesAhead_r9)))))))) ++ wsX50 ++ wsX10 ++ wsX30 ++ wsX00 ++ wsX40)
def wsX5_check_r1 : List Cond := [Cond.fieldLink RX5 30 "ProofChecker" "lines" "LProofChecker$Lines;", Cond.methodLink RX5 94 yX1_count, Cond.instanceMethod yX1_count, Cond.selects RX1 yX1_count yX1_count, Cond.initialized RX1, Cond.code yX1_count cX1_count 1 (some .int), Cond.fieldLink RX1 22 "ProofChecker$Lines" "count" "I", Cond.methodLink RX5 105 yX5_followsFromLinesAhead, Cond.instanceMethod yX5_followsFromLinesAhead, Cond.selects RX5 yX5_followsFromLinesAhead yX5_followsFromLinesAhead, Cond.initialized RX5, Cond.code yX5_followsFromLinesAhead cX5_followsFromLinesAhead 3 (some .boolean), Cond.fieldLink RX5 23 "ProofChecker" "rules" "LProofChecker$Rules;", Cond.fieldLink RX5 39 "ProofChecker" "units" "LProofChecker$Units;", Cond.fieldLink RX5 12 "ProofChecker" "grid" "LProofChecker$Grid;", Cond.methodLink RX5 123 yX1_numberOf, Cond.instanceMethod yX1_numberOf, Cond.selects RX1 yX1_numberOf yX1_numberOf, Cond.code yX1_numberOf cX1_numberOf 2 (some .int), Cond.fieldLink RX1 13 "ProofChecker$Lines" "numbers" "[I", Cond.methodLink RX5 113 yX1_kindOf, Cond.instanceMethod yX1_kindOf, Cond.selects RX1 yX1_kindOf yX1_kindOf, Cond.code yX1_kindOf cX1_kindOf 2 (some .int)]
def wsX5_check_r2 : List Cond := [Cond.fieldLink RX1 9 "ProofChecker$Lines" "kinds" "[I", Cond.methodLink RX5 143 yX3_has, Cond.instanceMethod yX3_has, Cond.selects RX3 yX3_has yX3_has, Cond.initialized RX3, Cond.code yX3_has cX3_has 2 (some .boolean), Cond.fieldLink RX3 29 "ProofChecker$Rules" "count" "I", Cond.methodLink RX5 176 yX5_isByRule, Cond.instanceMethod yX5_isByRule, Cond.selects RX5 yX5_isByRule yX5_isByRule, Cond.code yX5_isByRule cX5_isByRule 3 (some .boolean), Cond.methodLink RX5 188 yX3_canBeTried, Cond.instanceMethod yX3_canBeTried, Cond.selects RX3 yX3_canBeTried yX3_canBeTried, Cond.code yX3_canBeTried cX3_canBeTried 4 (some .boolean), Cond.fieldLink RX3 18 "ProofChecker$Rules" "sizes" "[I", Cond.fieldLink RX3 33 "ProofChecker$Rules" "grid" "LProofChecker$Grid;", Cond.methodLink RX3 62 yX0_symbols, Cond.instanceMethod yX0_symbols, Cond.selects RX0 yX0_symbols yX0_symbols, Cond.initialized RX0, Cond.code yX0_symbols cX0_symbols 1 (some .int), Cond.fieldLink RX0 20 "ProofChecker$Grid" "symbols" "I", Cond.methodLink RX5 191 yX4_turnRound]
def wsX5_check_r3 : List Cond := [Cond.instanceMethod yX4_turnRound, Cond.selects RX4 yX4_turnRound yX4_turnRound, Cond.initialized RX4, Cond.code yX4_turnRound cX4_turnRound 4 none, Cond.fieldLink RX4 24 "ProofChecker$Units" "lines" "LProofChecker$Lines;", Cond.methodLink RX4 35 yX4_startWhole, Cond.instanceMethod yX4_startWhole, Cond.selects RX4 yX4_startWhole yX4_startWhole, Cond.code yX4_startWhole cX4_startWhole 2 none, Cond.fieldLink RX4 20 "ProofChecker$Units" "grid" "LProofChecker$Grid;", Cond.fieldLink RX4 11 "ProofChecker$Units" "symbols" "[I", Cond.methodLink RX4 28 yX0_cells, Cond.instanceMethod yX0_cells, Cond.selects RX0 yX0_cells yX0_cells, Cond.code yX0_cells cX0_cells 1 (some .int), Cond.fieldLink RX0 17 "ProofChecker$Grid" "cells" "I", Cond.methodLink RX4 32 yX0_allSymbols, Cond.instanceMethod yX0_allSymbols, Cond.selects RX0 yX0_allSymbols yX0_allSymbols, Cond.code yX0_allSymbols cX0_allSymbols 1 (some .int), Cond.methodLink RX4 38 yX1_sizeOf, Cond.instanceMethod yX1_sizeOf, Cond.selects RX1 yX1_sizeOf yX1_sizeOf, Cond.code yX1_sizeOf cX1_sizeOf 2 (some .int)]
def wsX5_check_r4 : List Cond := [Cond.fieldLink RX1 16 "ProofChecker$Lines" "sizes" "[I", Cond.methodLink RX4 44 yX1_literalAt, Cond.instanceMethod yX1_literalAt, Cond.selects RX1 yX1_literalAt yX1_literalAt, Cond.code yX1_literalAt cX1_literalAt 3 (some .int), Cond.fieldLink RX1 19 "ProofChecker$Lines" "literals" "[I", Cond.methodLink RX4 48 yX1_saysIs, Cond.static yX1_saysIs, Cond.code yX1_saysIs cX1_saysIs 1 (some .boolean), Cond.methodLink RX4 52 yX4_narrow, Cond.instanceMethod yX4_narrow, Cond.selects RX4 yX4_narrow yX4_narrow, Cond.code yX4_narrow cX4_narrow 5 none, Cond.methodLink RX4 56 yX1_cellOf, Cond.static yX1_cellOf, Cond.code yX1_cellOf cX1_cellOf 1 (some .int), Cond.methodLink RX4 59 yX1_symbolOf, Cond.static yX1_symbolOf, Cond.code yX1_symbolOf cX1_symbolOf 1 (some .int), Cond.instanceMethod yX3_canBeMet, Cond.selects RX3 yX3_canBeMet yX3_canBeMet, Cond.code yX3_canBeMet cX3_canBeMet 7 (some .boolean), Cond.fieldLink RX3 26 "ProofChecker$Rules" "tried" "[I", Cond.methodLink RX3 66 yX3_meets]
def wsX5_check_r5 : List Cond := [Cond.instanceMethod yX3_meets, Cond.selects RX3 yX3_meets yX3_meets, Cond.code yX3_meets cX3_meets 3 (some .boolean), Cond.fieldLink RX3 11 "ProofChecker$Rules" "kinds" "[I", Cond.fieldLink RX3 15 "ProofChecker$Rules" "numbers" "[I", Cond.methodLink RX3 41 yX3_areUnlike, Cond.instanceMethod yX3_areUnlike, Cond.selects RX3 yX3_areUnlike yX3_areUnlike, Cond.code yX3_areUnlike cX3_areUnlike 6 (some .boolean), Cond.methodLink RX3 37 yX3_cellAt, Cond.instanceMethod yX3_cellAt, Cond.selects RX3 yX3_cellAt yX3_cellAt, Cond.code yX3_cellAt cX3_cellAt 3 (some .int), Cond.fieldLink RX3 21 "ProofChecker$Rules" "cells" "[I", Cond.methodLink RX3 45 yX3_sum, Cond.instanceMethod yX3_sum, Cond.selects RX3 yX3_sum yX3_sum, Cond.code yX3_sum cX3_sum 5 (some .int), Cond.methodLink RX3 49 yX3_rise, Cond.instanceMethod yX3_rise, Cond.selects RX3 yX3_rise yX3_rise, Cond.code yX3_rise cX3_rise 4 (some .boolean), Cond.methodLink RX3 52 yX3_likeTheFirst, Cond.instanceMethod yX3_likeTheFirst]
def wsX5_check_r6 : List Cond := [Cond.selects RX3 yX3_likeTheFirst yX3_likeTheFirst, Cond.code yX3_likeTheFirst cX3_likeTheFirst 6 (some .int), Cond.methodLink RX3 55 yX3_cellsWithOne, Cond.instanceMethod yX3_cellsWithOne, Cond.selects RX3 yX3_cellsWithOne yX3_cellsWithOne, Cond.code yX3_cellsWithOne cX3_cellsWithOne 6 (some .int), Cond.methodLink RX3 58 yX0_hangTogether, Cond.instanceMethod yX0_hangTogether, Cond.selects RX0 yX0_hangTogether yX0_hangTogether, Cond.code yX0_hangTogether cX0_hangTogether 4 (some .boolean), Cond.methodLink RX0 37 yX0_nextTo, Cond.instanceMethod yX0_nextTo, Cond.selects RX0 yX0_nextTo yX0_nextTo, Cond.code yX0_nextTo cX0_nextTo 5 (some .int), Cond.fieldLink RX0 13 "ProofChecker$Grid" "width" "I", Cond.fieldLink RX0 23 "ProofChecker$Grid" "leftEdge" "I", Cond.fieldLink RX0 26 "ProofChecker$Grid" "rightEdge" "I", Cond.methodLink RX3 69 yX4_symbolsOf, Cond.instanceMethod yX4_symbolsOf, Cond.selects RX4 yX4_symbolsOf yX4_symbolsOf, Cond.code yX4_symbolsOf cX4_symbolsOf 2 (some .int), Cond.methodLink RX3 75 yX3_canBeMet, Cond.methodLink RX5 179 yX4_refute, Cond.instanceMethod yX4_refute]
def wsX5_check_r7 : List Cond := [Cond.selects RX4 yX4_refute yX4_refute, Cond.code yX4_refute cX4_refute 2 (some .boolean), Cond.methodLink RX4 62 yX4_turnRound, Cond.methodLink RX4 66 yX4_comeToNothing, Cond.instanceMethod yX4_comeToNothing, Cond.selects RX4 yX4_comeToNothing yX4_comeToNothing, Cond.code yX4_comeToNothing cX4_comeToNothing 6 (some .boolean), Cond.methodLink RX4 80 yX4_someCellMayBeNothing, Cond.instanceMethod yX4_someCellMayBeNothing, Cond.selects RX4 yX4_someCellMayBeNothing yX4_someCellMayBeNothing, Cond.code yX4_someCellMayBeNothing cX4_someCellMayBeNothing 2 (some .boolean), Cond.methodLink RX4 78 yX0_symbols, Cond.methodLink RX4 84 yX4_stepBy, Cond.instanceMethod yX4_stepBy, Cond.selects RX4 yX4_stepBy yX4_stepBy, Cond.code yX4_stepBy cX4_stepBy 6 (some .int), Cond.methodLink RX4 87 yX4_stateOf, Cond.instanceMethod yX4_stateOf, Cond.selects RX4 yX4_stateOf yX4_stateOf, Cond.code yX4_stateOf cX4_stateOf 4 (some .int), Cond.methodLink RX5 148 yX0_hasCell, Cond.instanceMethod yX0_hasCell, Cond.selects RX0 yX0_hasCell yX0_hasCell, Cond.code yX0_hasCell cX0_hasCell 2 (some .boolean)]
def wsX5_check_r8 : List Cond := [Cond.methodLink RX5 182 yX4_refuteBySplit, Cond.instanceMethod yX4_refuteBySplit, Cond.selects RX4 yX4_refuteBySplit yX4_refuteBySplit, Cond.code yX4_refuteBySplit cX4_refuteBySplit 5 (some .boolean), Cond.fieldLink RX4 17 "ProofChecker$Units" "beforeSplit" "[I", Cond.methodLink RX4 72 arraycopyName, Cond.native arraycopyName, Cond.static arraycopyName, Cond.initialized "java/lang/System", Cond.methodLink RX4 69 yX4_refute, Cond.methodLink RX5 185 yX5_isBarred, Cond.instanceMethod yX5_isBarred, Cond.selects RX5 yX5_isBarred yX5_isBarred, Cond.code yX5_isBarred cX5_isBarred 2 (some .boolean), Cond.methodLink RX5 109 yX1_sizeOf, Cond.methodLink RX5 198 yX0_cells, Cond.methodLink RX5 201 yX5_deniesOnlyWhatIsSaid, Cond.instanceMethod yX5_deniesOnlyWhatIsSaid, Cond.selects RX5 yX5_deniesOnlyWhatIsSaid yX5_deniesOnlyWhatIsSaid, Cond.code yX5_deniesOnlyWhatIsSaid cX5_deniesOnlyWhatIsSaid 4 (some .boolean), Cond.fieldLink RX5 50 "ProofChecker" "said" "[I", Cond.methodLink RX5 161 yX1_literalAt, Cond.methodLink RX5 173 yX1_saysIs, Cond.methodLink RX5 167 yX1_cellOf]
def wsX5_check_r9 : List Cond := [Cond.methodLink RX5 170 yX1_symbolOf, Cond.methodLink RX5 204 yX5_fails, Cond.instanceMethod yX5_fails, Cond.selects RX5 yX5_fails yX5_fails, Cond.code yX5_fails cX5_fails 2 (some .int), Cond.methodLink RX5 79 yX3_count, Cond.instanceMethod yX3_count, Cond.selects RX3 yX3_count yX3_count, Cond.code yX3_count cX3_count 1 (some .int), Cond.methodLink RX5 72 yX3_allSaid, Cond.instanceMethod yX3_allSaid, Cond.selects RX3 yX3_allSaid yX3_allSaid, Cond.code yX3_allSaid cX3_allSaid 4 (some .boolean), Cond.methodLink RX5 76 yX3_meets]
def wsX5_check : List Cond := .code yX5_check cX5_check 2 (some .int) :: ((wsX5_check_r1 ++ (wsX5_check_r2 ++ (wsX5_check_r3 ++ (wsX5_check_r4 ++ (wsX5_check_r5 ++ (wsX5_check_r6 ++ (wsX5_check_r7 ++ (wsX5_check_r8 ++ wsX5_check_r9)))))))) ++ wsX50 ++ wsX10 ++ wsX30 ++ wsX00 ++ wsX40)
def wsX5_proves_r1 : List Cond := [Cond.fieldLink RX5 30 "ProofChecker" "lines" "LProofChecker$Lines;", Cond.methodLink RX5 94 yX1_count, Cond.instanceMethod yX1_count, Cond.selects RX1 yX1_count yX1_count, Cond.initialized RX1, Cond.code yX1_count cX1_count 1 (some .int), Cond.fieldLink RX1 22 "ProofChecker$Lines" "count" "I", Cond.methodLink RX5 109 yX1_sizeOf, Cond.instanceMethod yX1_sizeOf, Cond.selects RX1 yX1_sizeOf yX1_sizeOf, Cond.code yX1_sizeOf cX1_sizeOf 2 (some .int), Cond.fieldLink RX1 16 "ProofChecker$Lines" "sizes" "[I", Cond.methodLink RX5 105 yX5_followsFromLinesAhead, Cond.instanceMethod yX5_followsFromLinesAhead, Cond.selects RX5 yX5_followsFromLinesAhead yX5_followsFromLinesAhead, Cond.initialized RX5, Cond.code yX5_followsFromLinesAhead cX5_followsFromLinesAhead 3 (some .boolean), Cond.fieldLink RX5 23 "ProofChecker" "rules" "LProofChecker$Rules;", Cond.fieldLink RX5 39 "ProofChecker" "units" "LProofChecker$Units;", Cond.fieldLink RX5 12 "ProofChecker" "grid" "LProofChecker$Grid;", Cond.methodLink RX5 123 yX1_numberOf, Cond.instanceMethod yX1_numberOf, Cond.selects RX1 yX1_numberOf yX1_numberOf, Cond.code yX1_numberOf cX1_numberOf 2 (some .int)]
def wsX5_proves_r2 : List Cond := [Cond.fieldLink RX1 13 "ProofChecker$Lines" "numbers" "[I", Cond.methodLink RX5 113 yX1_kindOf, Cond.instanceMethod yX1_kindOf, Cond.selects RX1 yX1_kindOf yX1_kindOf, Cond.code yX1_kindOf cX1_kindOf 2 (some .int), Cond.fieldLink RX1 9 "ProofChecker$Lines" "kinds" "[I", Cond.methodLink RX5 143 yX3_has, Cond.instanceMethod yX3_has, Cond.selects RX3 yX3_has yX3_has, Cond.initialized RX3, Cond.code yX3_has cX3_has 2 (some .boolean), Cond.fieldLink RX3 29 "ProofChecker$Rules" "count" "I", Cond.methodLink RX5 176 yX5_isByRule, Cond.instanceMethod yX5_isByRule, Cond.selects RX5 yX5_isByRule yX5_isByRule, Cond.code yX5_isByRule cX5_isByRule 3 (some .boolean), Cond.methodLink RX5 188 yX3_canBeTried, Cond.instanceMethod yX3_canBeTried, Cond.selects RX3 yX3_canBeTried yX3_canBeTried, Cond.code yX3_canBeTried cX3_canBeTried 4 (some .boolean), Cond.fieldLink RX3 18 "ProofChecker$Rules" "sizes" "[I", Cond.fieldLink RX3 33 "ProofChecker$Rules" "grid" "LProofChecker$Grid;", Cond.methodLink RX3 62 yX0_symbols, Cond.instanceMethod yX0_symbols]
def wsX5_proves_r3 : List Cond := [Cond.selects RX0 yX0_symbols yX0_symbols, Cond.initialized RX0, Cond.code yX0_symbols cX0_symbols 1 (some .int), Cond.fieldLink RX0 20 "ProofChecker$Grid" "symbols" "I", Cond.methodLink RX5 191 yX4_turnRound, Cond.instanceMethod yX4_turnRound, Cond.selects RX4 yX4_turnRound yX4_turnRound, Cond.initialized RX4, Cond.code yX4_turnRound cX4_turnRound 4 none, Cond.fieldLink RX4 24 "ProofChecker$Units" "lines" "LProofChecker$Lines;", Cond.methodLink RX4 35 yX4_startWhole, Cond.instanceMethod yX4_startWhole, Cond.selects RX4 yX4_startWhole yX4_startWhole, Cond.code yX4_startWhole cX4_startWhole 2 none, Cond.fieldLink RX4 20 "ProofChecker$Units" "grid" "LProofChecker$Grid;", Cond.fieldLink RX4 11 "ProofChecker$Units" "symbols" "[I", Cond.methodLink RX4 28 yX0_cells, Cond.instanceMethod yX0_cells, Cond.selects RX0 yX0_cells yX0_cells, Cond.code yX0_cells cX0_cells 1 (some .int), Cond.fieldLink RX0 17 "ProofChecker$Grid" "cells" "I", Cond.methodLink RX4 32 yX0_allSymbols, Cond.instanceMethod yX0_allSymbols, Cond.selects RX0 yX0_allSymbols yX0_allSymbols]
def wsX5_proves_r4 : List Cond := [Cond.code yX0_allSymbols cX0_allSymbols 1 (some .int), Cond.methodLink RX4 38 yX1_sizeOf, Cond.methodLink RX4 44 yX1_literalAt, Cond.instanceMethod yX1_literalAt, Cond.selects RX1 yX1_literalAt yX1_literalAt, Cond.code yX1_literalAt cX1_literalAt 3 (some .int), Cond.fieldLink RX1 19 "ProofChecker$Lines" "literals" "[I", Cond.methodLink RX4 48 yX1_saysIs, Cond.static yX1_saysIs, Cond.code yX1_saysIs cX1_saysIs 1 (some .boolean), Cond.methodLink RX4 52 yX4_narrow, Cond.instanceMethod yX4_narrow, Cond.selects RX4 yX4_narrow yX4_narrow, Cond.code yX4_narrow cX4_narrow 5 none, Cond.methodLink RX4 56 yX1_cellOf, Cond.static yX1_cellOf, Cond.code yX1_cellOf cX1_cellOf 1 (some .int), Cond.methodLink RX4 59 yX1_symbolOf, Cond.static yX1_symbolOf, Cond.code yX1_symbolOf cX1_symbolOf 1 (some .int), Cond.instanceMethod yX3_canBeMet, Cond.selects RX3 yX3_canBeMet yX3_canBeMet, Cond.code yX3_canBeMet cX3_canBeMet 7 (some .boolean), Cond.fieldLink RX3 26 "ProofChecker$Rules" "tried" "[I"]
def wsX5_proves_r5 : List Cond := [Cond.methodLink RX3 66 yX3_meets, Cond.instanceMethod yX3_meets, Cond.selects RX3 yX3_meets yX3_meets, Cond.code yX3_meets cX3_meets 3 (some .boolean), Cond.fieldLink RX3 11 "ProofChecker$Rules" "kinds" "[I", Cond.fieldLink RX3 15 "ProofChecker$Rules" "numbers" "[I", Cond.methodLink RX3 41 yX3_areUnlike, Cond.instanceMethod yX3_areUnlike, Cond.selects RX3 yX3_areUnlike yX3_areUnlike, Cond.code yX3_areUnlike cX3_areUnlike 6 (some .boolean), Cond.methodLink RX3 37 yX3_cellAt, Cond.instanceMethod yX3_cellAt, Cond.selects RX3 yX3_cellAt yX3_cellAt, Cond.code yX3_cellAt cX3_cellAt 3 (some .int), Cond.fieldLink RX3 21 "ProofChecker$Rules" "cells" "[I", Cond.methodLink RX3 45 yX3_sum, Cond.instanceMethod yX3_sum, Cond.selects RX3 yX3_sum yX3_sum, Cond.code yX3_sum cX3_sum 5 (some .int), Cond.methodLink RX3 49 yX3_rise, Cond.instanceMethod yX3_rise, Cond.selects RX3 yX3_rise yX3_rise, Cond.code yX3_rise cX3_rise 4 (some .boolean), Cond.methodLink RX3 52 yX3_likeTheFirst]
def wsX5_proves_r6 : List Cond := [Cond.instanceMethod yX3_likeTheFirst, Cond.selects RX3 yX3_likeTheFirst yX3_likeTheFirst, Cond.code yX3_likeTheFirst cX3_likeTheFirst 6 (some .int), Cond.methodLink RX3 55 yX3_cellsWithOne, Cond.instanceMethod yX3_cellsWithOne, Cond.selects RX3 yX3_cellsWithOne yX3_cellsWithOne, Cond.code yX3_cellsWithOne cX3_cellsWithOne 6 (some .int), Cond.methodLink RX3 58 yX0_hangTogether, Cond.instanceMethod yX0_hangTogether, Cond.selects RX0 yX0_hangTogether yX0_hangTogether, Cond.code yX0_hangTogether cX0_hangTogether 4 (some .boolean), Cond.methodLink RX0 37 yX0_nextTo, Cond.instanceMethod yX0_nextTo, Cond.selects RX0 yX0_nextTo yX0_nextTo, Cond.code yX0_nextTo cX0_nextTo 5 (some .int), Cond.fieldLink RX0 13 "ProofChecker$Grid" "width" "I", Cond.fieldLink RX0 23 "ProofChecker$Grid" "leftEdge" "I", Cond.fieldLink RX0 26 "ProofChecker$Grid" "rightEdge" "I", Cond.methodLink RX3 69 yX4_symbolsOf, Cond.instanceMethod yX4_symbolsOf, Cond.selects RX4 yX4_symbolsOf yX4_symbolsOf, Cond.code yX4_symbolsOf cX4_symbolsOf 2 (some .int), Cond.methodLink RX3 75 yX3_canBeMet, Cond.methodLink RX5 179 yX4_refute]
def wsX5_proves_r7 : List Cond := [Cond.instanceMethod yX4_refute, Cond.selects RX4 yX4_refute yX4_refute, Cond.code yX4_refute cX4_refute 2 (some .boolean), Cond.methodLink RX4 62 yX4_turnRound, Cond.methodLink RX4 66 yX4_comeToNothing, Cond.instanceMethod yX4_comeToNothing, Cond.selects RX4 yX4_comeToNothing yX4_comeToNothing, Cond.code yX4_comeToNothing cX4_comeToNothing 6 (some .boolean), Cond.methodLink RX4 80 yX4_someCellMayBeNothing, Cond.instanceMethod yX4_someCellMayBeNothing, Cond.selects RX4 yX4_someCellMayBeNothing yX4_someCellMayBeNothing, Cond.code yX4_someCellMayBeNothing cX4_someCellMayBeNothing 2 (some .boolean), Cond.methodLink RX4 78 yX0_symbols, Cond.methodLink RX4 84 yX4_stepBy, Cond.instanceMethod yX4_stepBy, Cond.selects RX4 yX4_stepBy yX4_stepBy, Cond.code yX4_stepBy cX4_stepBy 6 (some .int), Cond.methodLink RX4 87 yX4_stateOf, Cond.instanceMethod yX4_stateOf, Cond.selects RX4 yX4_stateOf yX4_stateOf, Cond.code yX4_stateOf cX4_stateOf 4 (some .int), Cond.methodLink RX5 148 yX0_hasCell, Cond.instanceMethod yX0_hasCell, Cond.selects RX0 yX0_hasCell yX0_hasCell]
def wsX5_proves_r8 : List Cond := [Cond.code yX0_hasCell cX0_hasCell 2 (some .boolean), Cond.methodLink RX5 182 yX4_refuteBySplit, Cond.instanceMethod yX4_refuteBySplit, Cond.selects RX4 yX4_refuteBySplit yX4_refuteBySplit, Cond.code yX4_refuteBySplit cX4_refuteBySplit 5 (some .boolean), Cond.fieldLink RX4 17 "ProofChecker$Units" "beforeSplit" "[I", Cond.methodLink RX4 72 arraycopyName, Cond.native arraycopyName, Cond.static arraycopyName, Cond.initialized "java/lang/System", Cond.methodLink RX4 69 yX4_refute, Cond.methodLink RX5 185 yX5_isBarred, Cond.instanceMethod yX5_isBarred, Cond.selects RX5 yX5_isBarred yX5_isBarred, Cond.code yX5_isBarred cX5_isBarred 2 (some .boolean), Cond.methodLink RX5 198 yX0_cells, Cond.methodLink RX5 201 yX5_deniesOnlyWhatIsSaid, Cond.instanceMethod yX5_deniesOnlyWhatIsSaid, Cond.selects RX5 yX5_deniesOnlyWhatIsSaid yX5_deniesOnlyWhatIsSaid, Cond.code yX5_deniesOnlyWhatIsSaid cX5_deniesOnlyWhatIsSaid 4 (some .boolean), Cond.fieldLink RX5 50 "ProofChecker" "said" "[I", Cond.methodLink RX5 161 yX1_literalAt, Cond.methodLink RX5 173 yX1_saysIs, Cond.methodLink RX5 167 yX1_cellOf]
def wsX5_proves_r9 : List Cond := [Cond.methodLink RX5 170 yX1_symbolOf, Cond.methodLink RX5 204 yX5_fails, Cond.instanceMethod yX5_fails, Cond.selects RX5 yX5_fails yX5_fails, Cond.code yX5_fails cX5_fails 2 (some .int), Cond.methodLink RX5 79 yX3_count, Cond.instanceMethod yX3_count, Cond.selects RX3 yX3_count yX3_count, Cond.code yX3_count cX3_count 1 (some .int), Cond.methodLink RX5 72 yX3_allSaid, Cond.instanceMethod yX3_allSaid, Cond.selects RX3 yX3_allSaid yX3_allSaid, Cond.code yX3_allSaid cX3_allSaid 4 (some .boolean), Cond.methodLink RX5 76 yX3_meets]
def wsX5_proves : List Cond := .code yX5_proves cX5_proves 4 (some .int) :: ((wsX5_proves_r1 ++ (wsX5_proves_r2 ++ (wsX5_proves_r3 ++ (wsX5_proves_r4 ++ (wsX5_proves_r5 ++ (wsX5_proves_r6 ++ (wsX5_proves_r7 ++ (wsX5_proves_r8 ++ wsX5_proves_r9)))))))) ++ wsX50 ++ wsX10 ++ wsX30 ++ wsX00 ++ wsX40)
def wsX5_toldLiteral_r1 : List Cond := [Cond.fieldLink RX5 30 "ProofChecker" "lines" "LProofChecker$Lines;", Cond.fieldLink RX5 12 "ProofChecker" "grid" "LProofChecker$Grid;", Cond.methodLink RX5 109 yX1_sizeOf, Cond.instanceMethod yX1_sizeOf, Cond.selects RX1 yX1_sizeOf yX1_sizeOf, Cond.initialized RX1, Cond.code yX1_sizeOf cX1_sizeOf 2 (some .int), Cond.fieldLink RX1 16 "ProofChecker$Lines" "sizes" "[I", Cond.methodLink RX5 161 yX1_literalAt, Cond.instanceMethod yX1_literalAt, Cond.selects RX1 yX1_literalAt yX1_literalAt, Cond.code yX1_literalAt cX1_literalAt 3 (some .int), Cond.fieldLink RX1 19 "ProofChecker$Lines" "literals" "[I", Cond.methodLink RX5 164 yX0_symbols, Cond.instanceMethod yX0_symbols, Cond.selects RX0 yX0_symbols yX0_symbols, Cond.initialized RX0, Cond.code yX0_symbols cX0_symbols 1 (some .int), Cond.fieldLink RX0 20 "ProofChecker$Grid" "symbols" "I", Cond.methodLink RX5 167 yX1_cellOf, Cond.static yX1_cellOf, Cond.code yX1_cellOf cX1_cellOf 1 (some .int), Cond.methodLink RX5 170 yX1_symbolOf, Cond.static yX1_symbolOf]
def wsX5_toldLiteral_r2 : List Cond := [Cond.code yX1_symbolOf cX1_symbolOf 1 (some .int), Cond.methodLink RX5 173 yX1_saysIs, Cond.static yX1_saysIs, Cond.code yX1_saysIs cX1_saysIs 1 (some .boolean)]
def wsX5_toldLiteral : List Cond := .code yX5_toldLiteral cX5_toldLiteral 5 (some .int) :: ((wsX5_toldLiteral_r1 ++ wsX5_toldLiteral_r2) ++ wsX50 ++ wsX10 ++ wsX00)
def wsX5_tell_r1 : List Cond := [Cond.fieldLink RX5 30 "ProofChecker" "lines" "LProofChecker$Lines;", Cond.classLink RX5 116 RJx00060, Cond.instantiable RJx00060 6, Cond.initialized RJx00060, Cond.methodLink RX5 94 yX1_count, Cond.instanceMethod yX1_count, Cond.selects RX1 yX1_count yX1_count, Cond.initialized RX1, Cond.code yX1_count cX1_count 1 (some .int), Cond.fieldLink RX1 22 "ProofChecker$Lines" "count" "I", Cond.methodLink RX5 113 yX1_kindOf, Cond.instanceMethod yX1_kindOf, Cond.selects RX1 yX1_kindOf yX1_kindOf, Cond.code yX1_kindOf cX1_kindOf 2 (some .int), Cond.fieldLink RX1 9 "ProofChecker$Lines" "kinds" "[I", Cond.methodLink RX5 123 yX1_numberOf, Cond.instanceMethod yX1_numberOf, Cond.selects RX1 yX1_numberOf yX1_numberOf, Cond.code yX1_numberOf cX1_numberOf 2 (some .int), Cond.fieldLink RX1 13 "ProofChecker$Lines" "numbers" "[I", Cond.methodLink RX5 109 yX1_sizeOf, Cond.instanceMethod yX1_sizeOf, Cond.selects RX1 yX1_sizeOf yX1_sizeOf, Cond.code yX1_sizeOf cX1_sizeOf 2 (some .int)]
def wsX5_tell_r2 : List Cond := [Cond.fieldLink RX1 16 "ProofChecker$Lines" "sizes" "[I", Cond.methodLink RX5 126 yX5_toldLiteral, Cond.instanceMethod yX5_toldLiteral, Cond.selects RX5 yX5_toldLiteral yX5_toldLiteral, Cond.initialized RX5, Cond.code yX5_toldLiteral cX5_toldLiteral 5 (some .int), Cond.fieldLink RX5 12 "ProofChecker" "grid" "LProofChecker$Grid;", Cond.methodLink RX5 161 yX1_literalAt, Cond.instanceMethod yX1_literalAt, Cond.selects RX1 yX1_literalAt yX1_literalAt, Cond.code yX1_literalAt cX1_literalAt 3 (some .int), Cond.fieldLink RX1 19 "ProofChecker$Lines" "literals" "[I", Cond.methodLink RX5 164 yX0_symbols, Cond.instanceMethod yX0_symbols, Cond.selects RX0 yX0_symbols yX0_symbols, Cond.initialized RX0, Cond.code yX0_symbols cX0_symbols 1 (some .int), Cond.fieldLink RX0 20 "ProofChecker$Grid" "symbols" "I", Cond.methodLink RX5 167 yX1_cellOf, Cond.static yX1_cellOf, Cond.code yX1_cellOf cX1_cellOf 1 (some .int), Cond.methodLink RX5 170 yX1_symbolOf, Cond.static yX1_symbolOf, Cond.code yX1_symbolOf cX1_symbolOf 1 (some .int)]
def wsX5_tell_r3 : List Cond := [Cond.methodLink RX5 173 yX1_saysIs, Cond.static yX1_saysIs, Cond.code yX1_saysIs cX1_saysIs 1 (some .boolean)]
def wsX5_tell : List Cond := .code yX5_tell cX5_tell 3 (some .int) :: ((wsX5_tell_r1 ++ (wsX5_tell_r2 ++ wsX5_tell_r3)) ++ wsX50 ++ wsJx000600 ++ wsX10 ++ wsX00)
def wsX5_may_r1 : List Cond := [Cond.fieldLink RX5 39 "ProofChecker" "units" "LProofChecker$Units;", Cond.fieldLink RX5 30 "ProofChecker" "lines" "LProofChecker$Lines;", Cond.methodLink RX5 62 yX5_needCell, Cond.instanceMethod yX5_needCell, Cond.selects RX5 yX5_needCell yX5_needCell, Cond.initialized RX5, Cond.code yX5_needCell cX5_needCell 2 none, Cond.fieldLink RX5 12 "ProofChecker" "grid" "LProofChecker$Grid;", Cond.classLink RX5 116 RJx00060, Cond.instantiable RJx00060 6, Cond.initialized RJx00060, Cond.methodLink RX5 148 yX0_hasCell, Cond.instanceMethod yX0_hasCell, Cond.selects RX0 yX0_hasCell yX0_hasCell, Cond.initialized RX0, Cond.code yX0_hasCell cX0_hasCell 2 (some .boolean), Cond.fieldLink RX0 17 "ProofChecker$Grid" "cells" "I", Cond.methodLink RX5 129 yX4_startWhole, Cond.instanceMethod yX4_startWhole, Cond.selects RX4 yX4_startWhole yX4_startWhole, Cond.initialized RX4, Cond.code yX4_startWhole cX4_startWhole 2 none, Cond.fieldLink RX4 20 "ProofChecker$Units" "grid" "LProofChecker$Grid;", Cond.fieldLink RX4 11 "ProofChecker$Units" "symbols" "[I"]
def wsX5_may_r2 : List Cond := [Cond.methodLink RX4 28 yX0_cells, Cond.instanceMethod yX0_cells, Cond.selects RX0 yX0_cells yX0_cells, Cond.code yX0_cells cX0_cells 1 (some .int), Cond.methodLink RX4 32 yX0_allSymbols, Cond.instanceMethod yX0_allSymbols, Cond.selects RX0 yX0_allSymbols yX0_allSymbols, Cond.code yX0_allSymbols cX0_allSymbols 1 (some .int), Cond.fieldLink RX0 20 "ProofChecker$Grid" "symbols" "I", Cond.methodLink RX5 94 yX1_count, Cond.instanceMethod yX1_count, Cond.selects RX1 yX1_count yX1_count, Cond.initialized RX1, Cond.code yX1_count cX1_count 1 (some .int), Cond.fieldLink RX1 22 "ProofChecker$Lines" "count" "I", Cond.methodLink RX5 132 yX4_comeToNothing, Cond.instanceMethod yX4_comeToNothing, Cond.selects RX4 yX4_comeToNothing yX4_comeToNothing, Cond.code yX4_comeToNothing cX4_comeToNothing 6 (some .boolean), Cond.methodLink RX4 80 yX4_someCellMayBeNothing, Cond.instanceMethod yX4_someCellMayBeNothing, Cond.selects RX4 yX4_someCellMayBeNothing yX4_someCellMayBeNothing, Cond.code yX4_someCellMayBeNothing cX4_someCellMayBeNothing 2 (some .boolean), Cond.methodLink RX4 78 yX0_symbols]
def wsX5_may_r3 : List Cond := [Cond.instanceMethod yX0_symbols, Cond.selects RX0 yX0_symbols yX0_symbols, Cond.code yX0_symbols cX0_symbols 1 (some .int), Cond.methodLink RX4 84 yX4_stepBy, Cond.instanceMethod yX4_stepBy, Cond.selects RX4 yX4_stepBy yX4_stepBy, Cond.code yX4_stepBy cX4_stepBy 6 (some .int), Cond.fieldLink RX4 24 "ProofChecker$Units" "lines" "LProofChecker$Lines;", Cond.methodLink RX4 38 yX1_sizeOf, Cond.instanceMethod yX1_sizeOf, Cond.selects RX1 yX1_sizeOf yX1_sizeOf, Cond.code yX1_sizeOf cX1_sizeOf 2 (some .int), Cond.fieldLink RX1 16 "ProofChecker$Lines" "sizes" "[I", Cond.methodLink RX4 44 yX1_literalAt, Cond.instanceMethod yX1_literalAt, Cond.selects RX1 yX1_literalAt yX1_literalAt, Cond.code yX1_literalAt cX1_literalAt 3 (some .int), Cond.fieldLink RX1 19 "ProofChecker$Lines" "literals" "[I", Cond.methodLink RX4 87 yX4_stateOf, Cond.instanceMethod yX4_stateOf, Cond.selects RX4 yX4_stateOf yX4_stateOf, Cond.code yX4_stateOf cX4_stateOf 4 (some .int), Cond.methodLink RX4 56 yX1_cellOf, Cond.static yX1_cellOf]
def wsX5_may_r4 : List Cond := [Cond.code yX1_cellOf cX1_cellOf 1 (some .int), Cond.methodLink RX4 59 yX1_symbolOf, Cond.static yX1_symbolOf, Cond.code yX1_symbolOf cX1_symbolOf 1 (some .int), Cond.methodLink RX4 48 yX1_saysIs, Cond.static yX1_saysIs, Cond.code yX1_saysIs cX1_saysIs 1 (some .boolean), Cond.methodLink RX4 52 yX4_narrow, Cond.instanceMethod yX4_narrow, Cond.selects RX4 yX4_narrow yX4_narrow, Cond.code yX4_narrow cX4_narrow 5 none, Cond.methodLink RX5 135 yX4_symbolsOf, Cond.instanceMethod yX4_symbolsOf, Cond.selects RX4 yX4_symbolsOf yX4_symbolsOf, Cond.code yX4_symbolsOf cX4_symbolsOf 2 (some .int)]
def wsX5_may : List Cond := .code yX5_may cX5_may 2 (some .int) :: ((wsX5_may_r1 ++ (wsX5_may_r2 ++ (wsX5_may_r3 ++ wsX5_may_r4))) ++ wsX50 ++ wsJx000600 ++ wsX00 ++ wsX40 ++ wsX10)
def wsX5_unit : List Cond := .code yX5_unit cX5_unit 2 (some .boolean) :: ([.fieldLink RX5 46 "ProofChecker" "reader" "LProofChecker$Reader;", .methodLink RX5 138 yX2_append, .instanceMethod yX2_append, .selects RX2 yX2_append yX2_append, .initialized RX2, .code yX2_append cX2_append 2 (some .boolean), .fieldLink RX2 15 "ProofChecker$Reader" "count" "I", .fieldLink RX2 11 "ProofChecker$Reader" "bytes" "[I"] ++ wsX50 ++ wsX20)
def wsX5_read_r1 : List Cond := [Cond.fieldLink RX5 46 "ProofChecker" "reader" "LProofChecker$Reader;", Cond.methodLink RX5 140 yX2_readAll, Cond.instanceMethod yX2_readAll, Cond.selects RX2 yX2_readAll yX2_readAll, Cond.initialized RX2, Cond.code yX2_readAll cX2_readAll 4 (some .int), Cond.fieldLink RX2 26 "ProofChecker$Reader" "lines" "LProofChecker$Lines;", Cond.fieldLink RX2 19 "ProofChecker$Reader" "place" "I", Cond.fieldLink RX2 15 "ProofChecker$Reader" "count" "I", Cond.methodLink RX2 30 yX1_count, Cond.instanceMethod yX1_count, Cond.selects RX1 yX1_count yX1_count, Cond.initialized RX1, Cond.code yX1_count cX1_count 1 (some .int), Cond.fieldLink RX1 22 "ProofChecker$Lines" "count" "I", Cond.methodLink RX2 35 yX2_readLine, Cond.instanceMethod yX2_readLine, Cond.selects RX2 yX2_readLine yX2_readLine, Cond.code yX2_readLine cX2_readLine 3 (some .boolean), Cond.methodLink RX2 43 yX2_readHead, Cond.instanceMethod yX2_readHead, Cond.selects RX2 yX2_readHead yX2_readHead, Cond.code yX2_readHead cX2_readHead 3 (some .boolean), Cond.methodLink RX2 46 yX2_isHere]
def wsX5_read_r2 : List Cond := [Cond.instanceMethod yX2_isHere, Cond.selects RX2 yX2_isHere yX2_isHere, Cond.code yX2_isHere cX2_isHere 2 (some .boolean), Cond.fieldLink RX2 11 "ProofChecker$Reader" "bytes" "[I", Cond.methodLink RX2 60 yX1_startDraft, Cond.instanceMethod yX1_startDraft, Cond.selects RX1 yX1_startDraft yX1_startDraft, Cond.code yX1_startDraft cX1_startDraft 3 none, Cond.fieldLink RX1 9 "ProofChecker$Lines" "kinds" "[I", Cond.fieldLink RX1 13 "ProofChecker$Lines" "numbers" "[I", Cond.fieldLink RX1 16 "ProofChecker$Lines" "sizes" "[I", Cond.methodLink RX2 64 yX2_readNumber, Cond.instanceMethod yX2_readNumber, Cond.selects RX2 yX2_readNumber yX2_readNumber, Cond.code yX2_readNumber cX2_readNumber 3 (some .int), Cond.methodLink RX2 87 yX2_digitHere, Cond.instanceMethod yX2_digitHere, Cond.selects RX2 yX2_digitHere yX2_digitHere, Cond.code yX2_digitHere cX2_digitHere 1 (some .int), Cond.methodLink RX2 50 yX1_isFullOfLiterals, Cond.instanceMethod yX1_isFullOfLiterals, Cond.selects RX1 yX1_isFullOfLiterals yX1_isFullOfLiterals, Cond.code yX1_isFullOfLiterals cX1_isFullOfLiterals 2 (some .boolean), Cond.methodLink RX2 54 yX2_readLiteral]
def wsX5_read_r3 : List Cond := [Cond.instanceMethod yX2_readLiteral, Cond.selects RX2 yX2_readLiteral yX2_readLiteral, Cond.code yX2_readLiteral cX2_readLiteral 5 (some .boolean), Cond.fieldLink RX2 22 "ProofChecker$Reader" "grid" "LProofChecker$Grid;", Cond.methodLink RX2 67 yX0_cells, Cond.instanceMethod yX0_cells, Cond.selects RX0 yX0_cells yX0_cells, Cond.initialized RX0, Cond.code yX0_cells cX0_cells 1 (some .int), Cond.fieldLink RX0 17 "ProofChecker$Grid" "cells" "I", Cond.methodLink RX2 72 yX2_readNumberBelow, Cond.instanceMethod yX2_readNumberBelow, Cond.selects RX2 yX2_readNumberBelow yX2_readNumberBelow, Cond.code yX2_readNumberBelow cX2_readNumberBelow 3 (some .int), Cond.methodLink RX2 76 yX0_symbols, Cond.instanceMethod yX0_symbols, Cond.selects RX0 yX0_symbols yX0_symbols, Cond.code yX0_symbols cX0_symbols 1 (some .int), Cond.fieldLink RX0 20 "ProofChecker$Grid" "symbols" "I", Cond.methodLink RX2 79 yX1_literalOf, Cond.static yX1_literalOf, Cond.code yX1_literalOf cX1_literalOf 3 (some .int), Cond.methodLink RX2 83 yX1_addLiteral, Cond.instanceMethod yX1_addLiteral]
def wsX5_read_r4 : List Cond := [Cond.selects RX1 yX1_addLiteral yX1_addLiteral, Cond.code yX1_addLiteral cX1_addLiteral 5 (some .boolean), Cond.fieldLink RX1 19 "ProofChecker$Lines" "literals" "[I", Cond.methodLink RX1 30 yX1_isFullOfLiterals, Cond.methodLink RX1 34 yX1_literalAt, Cond.instanceMethod yX1_literalAt, Cond.selects RX1 yX1_literalAt yX1_literalAt, Cond.code yX1_literalAt cX1_literalAt 3 (some .int), Cond.methodLink RX2 57 yX1_keepDraft, Cond.instanceMethod yX1_keepDraft, Cond.selects RX1 yX1_keepDraft yX1_keepDraft, Cond.code yX1_keepDraft cX1_keepDraft 1 (some .boolean), Cond.methodLink RX1 26 yX1_isFull, Cond.instanceMethod yX1_isFull, Cond.selects RX1 yX1_isFull yX1_isFull, Cond.code yX1_isFull cX1_isFull 1 (some .boolean), Cond.methodLink RX2 39 yX1_cutTo, Cond.instanceMethod yX1_cutTo, Cond.selects RX1 yX1_cutTo yX1_cutTo, Cond.code yX1_cutTo cX1_cutTo 2 none]
def wsX5_read : List Cond := .code yX5_read cX5_read 1 (some .int) :: ((wsX5_read_r1 ++ (wsX5_read_r2 ++ (wsX5_read_r3 ++ wsX5_read_r4))) ++ wsX50 ++ wsX20 ++ wsX10 ++ wsX00)
def wsX6_held : List Cond := .code yX6_held cX6_held 2 (some .int) :: ([])
def wsX6_init : List Cond := .code yX6_init cX6_init 5 none :: ([.methodLink RX6 1 objectInit, .instanceMethod objectInit, .code objectInit ⟨#[0xb1]⟩ 1 none, .arrayClass .int, .fieldLink RX6 7 "ProofCheckerModel" "ruleKind" "[I", .fieldLink RX6 13 "ProofCheckerModel" "ruleNumber" "[I", .fieldLink RX6 16 "ProofCheckerModel" "ruleSize" "[I", .fieldLink RX6 19 "ProofCheckerModel" "ruleCell" "[I", .fieldLink RX6 22 "ProofCheckerModel" "answer" "[I", .fieldLink RX6 25 "ProofCheckerModel" "lineKind" "[I", .fieldLink RX6 28 "ProofCheckerModel" "lineNumber" "[I", .fieldLink RX6 31 "ProofCheckerModel" "lineSize" "[I", .fieldLink RX6 34 "ProofCheckerModel" "literal" "[I", .fieldLink RX6 37 "ProofCheckerModel" "may" "[I", .fieldLink RX6 40 "ProofCheckerModel" "kept" "[I", .fieldLink RX6 43 "ProofCheckerModel" "fill" "[I", .fieldLink RX6 46 "ProofCheckerModel" "text" "[I", .fieldLink RX6 53 "ProofCheckerModel" "width" "I", .fieldLink RX6 57 "ProofCheckerModel" "height" "I", .fieldLink RX6 60 "ProofCheckerModel" "symbols" "I", .methodLink RX6 49 yX6_held, .static yX6_held, .initialized RX6, .code yX6_held cX6_held 2 (some .int)] ++ wsX60)
def wsX6_thrown : List Cond := .code yX6_thrown cX6_thrown 1 (some .int) :: ([.fieldLink RX6 63 "ProofCheckerModel" "thrown" "I"] ++ wsX60)
def wsX6_throwsIf : List Cond := .code yX6_throwsIf cX6_throwsIf 3 (some .boolean) :: ([.fieldLink RX6 63 "ProofCheckerModel" "thrown" "I"] ++ wsX60)
def wsX6_cells : List Cond := .code yX6_cells cX6_cells 1 (some .int) :: ([.fieldLink RX6 53 "ProofCheckerModel" "width" "I", .fieldLink RX6 57 "ProofCheckerModel" "height" "I"] ++ wsX60)
def wsX6_isCell : List Cond := .code yX6_isCell cX6_isCell 2 (some .boolean) :: ([.methodLink RX6 66 yX6_cells, .instanceMethod yX6_cells, .selects RX6 yX6_cells yX6_cells, .initialized RX6, .code yX6_cells cX6_cells 1 (some .int), .fieldLink RX6 53 "ProofCheckerModel" "width" "I", .fieldLink RX6 57 "ProofCheckerModel" "height" "I"] ++ wsX60)
def wsX6_isSymbol : List Cond := .code yX6_isSymbol cX6_isSymbol 2 (some .boolean) :: ([.fieldLink RX6 60 "ProofCheckerModel" "symbols" "I"] ++ wsX60)
def wsX6_rule : List Cond := .code yX6_rule cX6_rule 3 (some .int) :: ([.fieldLink RX6 63 "ProofCheckerModel" "thrown" "I", .fieldLink RX6 70 "ProofCheckerModel" "rules" "I", .fieldLink RX6 7 "ProofCheckerModel" "ruleKind" "[I", .fieldLink RX6 13 "ProofCheckerModel" "ruleNumber" "[I", .fieldLink RX6 16 "ProofCheckerModel" "ruleSize" "[I"] ++ wsX60)
def wsX6_member : List Cond := .code yX6_member cX6_member 3 (some .int) :: ([.fieldLink RX6 19 "ProofCheckerModel" "ruleCell" "[I"] ++ wsX60)
def wsX6_seat : List Cond := .code yX6_seat cX6_seat 4 (some .int) :: ([.fieldLink RX6 16 "ProofCheckerModel" "ruleSize" "[I", .methodLink RX6 73 yX6_member, .instanceMethod yX6_member, .selects RX6 yX6_member yX6_member, .initialized RX6, .code yX6_member cX6_member 3 (some .int), .fieldLink RX6 19 "ProofCheckerModel" "ruleCell" "[I"] ++ wsX60)
def wsX6_into_r1 : List Cond := [Cond.fieldLink RX6 70 "ProofCheckerModel" "rules" "I", Cond.fieldLink RX6 16 "ProofCheckerModel" "ruleSize" "[I", Cond.fieldLink RX6 19 "ProofCheckerModel" "ruleCell" "[I", Cond.methodLink RX6 76 yX6_isCell, Cond.instanceMethod yX6_isCell, Cond.selects RX6 yX6_isCell yX6_isCell, Cond.initialized RX6, Cond.code yX6_isCell cX6_isCell 2 (some .boolean), Cond.methodLink RX6 66 yX6_cells, Cond.instanceMethod yX6_cells, Cond.selects RX6 yX6_cells yX6_cells, Cond.code yX6_cells cX6_cells 1 (some .int), Cond.fieldLink RX6 53 "ProofCheckerModel" "width" "I", Cond.fieldLink RX6 57 "ProofCheckerModel" "height" "I", Cond.methodLink RX6 80 yX6_throwsIf, Cond.instanceMethod yX6_throwsIf, Cond.selects RX6 yX6_throwsIf yX6_throwsIf, Cond.code yX6_throwsIf cX6_throwsIf 3 (some .boolean), Cond.fieldLink RX6 63 "ProofCheckerModel" "thrown" "I", Cond.methodLink RX6 84 yX6_seat, Cond.instanceMethod yX6_seat, Cond.selects RX6 yX6_seat yX6_seat, Cond.code yX6_seat cX6_seat 4 (some .int), Cond.methodLink RX6 73 yX6_member]
def wsX6_into_r2 : List Cond := [Cond.instanceMethod yX6_member, Cond.selects RX6 yX6_member yX6_member, Cond.code yX6_member cX6_member 3 (some .int)]
def wsX6_into : List Cond := .code yX6_into cX6_into 3 (some .boolean) :: ((wsX6_into_r1 ++ wsX6_into_r2) ++ wsX60)
def wsX6_answer : List Cond := .code yX6_answer cX6_answer 3 (some .boolean) :: ([.fieldLink RX6 22 "ProofCheckerModel" "answer" "[I", .methodLink RX6 76 yX6_isCell, .instanceMethod yX6_isCell, .selects RX6 yX6_isCell yX6_isCell, .initialized RX6, .code yX6_isCell cX6_isCell 2 (some .boolean), .methodLink RX6 66 yX6_cells, .instanceMethod yX6_cells, .selects RX6 yX6_cells yX6_cells, .code yX6_cells cX6_cells 1 (some .int), .fieldLink RX6 53 "ProofCheckerModel" "width" "I", .fieldLink RX6 57 "ProofCheckerModel" "height" "I", .methodLink RX6 80 yX6_throwsIf, .instanceMethod yX6_throwsIf, .selects RX6 yX6_throwsIf yX6_throwsIf, .code yX6_throwsIf cX6_throwsIf 3 (some .boolean), .fieldLink RX6 63 "ProofCheckerModel" "thrown" "I", .methodLink RX6 87 yX6_isSymbol, .instanceMethod yX6_isSymbol, .selects RX6 yX6_isSymbol yX6_isSymbol, .code yX6_isSymbol cX6_isSymbol 2 (some .boolean), .fieldLink RX6 60 "ProofCheckerModel" "symbols" "I"] ++ wsX60)
def wsX6_isNext : List Cond := .code yX6_isNext cX6_isNext 5 (some .boolean) :: ([.fieldLink RX6 53 "ProofCheckerModel" "width" "I"] ++ wsX60)
def wsX6_hangs : List Cond := .code yX6_hangs cX6_hangs 8 (some .boolean) :: ([.fieldLink RX6 16 "ProofCheckerModel" "ruleSize" "[I", .fieldLink RX6 43 "ProofCheckerModel" "fill" "[I", .methodLink RX6 73 yX6_member, .instanceMethod yX6_member, .selects RX6 yX6_member yX6_member, .initialized RX6, .code yX6_member cX6_member 3 (some .int), .fieldLink RX6 19 "ProofCheckerModel" "ruleCell" "[I", .methodLink RX6 90 yX6_isNext, .instanceMethod yX6_isNext, .selects RX6 yX6_isNext yX6_isNext, .code yX6_isNext cX6_isNext 5 (some .boolean), .fieldLink RX6 53 "ProofCheckerModel" "width" "I"] ++ wsX60)
def wsX6_meets : List Cond := .code yX6_meets cX6_meets 9 (some .boolean) :: ([.fieldLink RX6 16 "ProofCheckerModel" "ruleSize" "[I", .fieldLink RX6 43 "ProofCheckerModel" "fill" "[I", .fieldLink RX6 7 "ProofCheckerModel" "ruleKind" "[I", .fieldLink RX6 13 "ProofCheckerModel" "ruleNumber" "[I", .methodLink RX6 94 yX6_hangs, .instanceMethod yX6_hangs, .selects RX6 yX6_hangs yX6_hangs, .initialized RX6, .code yX6_hangs cX6_hangs 8 (some .boolean), .methodLink RX6 73 yX6_member, .instanceMethod yX6_member, .selects RX6 yX6_member yX6_member, .code yX6_member cX6_member 3 (some .int), .fieldLink RX6 19 "ProofCheckerModel" "ruleCell" "[I", .methodLink RX6 90 yX6_isNext, .instanceMethod yX6_isNext, .selects RX6 yX6_isNext yX6_isNext, .code yX6_isNext cX6_isNext 5 (some .boolean), .fieldLink RX6 53 "ProofCheckerModel" "width" "I"] ++ wsX60)
def wsX6_testRule : List Cond := .code yX6_testRule cX6_testRule 3 (some .int) :: ([.fieldLink RX6 16 "ProofCheckerModel" "ruleSize" "[I", .fieldLink RX6 43 "ProofCheckerModel" "fill" "[I", .fieldLink RX6 22 "ProofCheckerModel" "answer" "[I", .methodLink RX6 73 yX6_member, .instanceMethod yX6_member, .selects RX6 yX6_member yX6_member, .initialized RX6, .code yX6_member cX6_member 3 (some .int), .fieldLink RX6 19 "ProofCheckerModel" "ruleCell" "[I", .methodLink RX6 97 yX6_meets, .instanceMethod yX6_meets, .selects RX6 yX6_meets yX6_meets, .code yX6_meets cX6_meets 9 (some .boolean), .fieldLink RX6 7 "ProofCheckerModel" "ruleKind" "[I", .fieldLink RX6 13 "ProofCheckerModel" "ruleNumber" "[I", .methodLink RX6 94 yX6_hangs, .instanceMethod yX6_hangs, .selects RX6 yX6_hangs yX6_hangs, .code yX6_hangs cX6_hangs 8 (some .boolean), .methodLink RX6 90 yX6_isNext, .instanceMethod yX6_isNext, .selects RX6 yX6_isNext yX6_isNext, .code yX6_isNext cX6_isNext 5 (some .boolean), .fieldLink RX6 53 "ProofCheckerModel" "width" "I"] ++ wsX60)
def wsX6_test_r1 : List Cond := [Cond.fieldLink RX6 70 "ProofCheckerModel" "rules" "I", Cond.methodLink RX6 80 yX6_throwsIf, Cond.instanceMethod yX6_throwsIf, Cond.selects RX6 yX6_throwsIf yX6_throwsIf, Cond.initialized RX6, Cond.code yX6_throwsIf cX6_throwsIf 3 (some .boolean), Cond.fieldLink RX6 63 "ProofCheckerModel" "thrown" "I", Cond.methodLink RX6 100 yX6_testRule, Cond.instanceMethod yX6_testRule, Cond.selects RX6 yX6_testRule yX6_testRule, Cond.code yX6_testRule cX6_testRule 3 (some .int), Cond.fieldLink RX6 16 "ProofCheckerModel" "ruleSize" "[I", Cond.fieldLink RX6 43 "ProofCheckerModel" "fill" "[I", Cond.fieldLink RX6 22 "ProofCheckerModel" "answer" "[I", Cond.methodLink RX6 73 yX6_member, Cond.instanceMethod yX6_member, Cond.selects RX6 yX6_member yX6_member, Cond.code yX6_member cX6_member 3 (some .int), Cond.fieldLink RX6 19 "ProofCheckerModel" "ruleCell" "[I", Cond.methodLink RX6 97 yX6_meets, Cond.instanceMethod yX6_meets, Cond.selects RX6 yX6_meets yX6_meets, Cond.code yX6_meets cX6_meets 9 (some .boolean), Cond.fieldLink RX6 7 "ProofCheckerModel" "ruleKind" "[I"]
def wsX6_test_r2 : List Cond := [Cond.fieldLink RX6 13 "ProofCheckerModel" "ruleNumber" "[I", Cond.methodLink RX6 94 yX6_hangs, Cond.instanceMethod yX6_hangs, Cond.selects RX6 yX6_hangs yX6_hangs, Cond.code yX6_hangs cX6_hangs 8 (some .boolean), Cond.methodLink RX6 90 yX6_isNext, Cond.instanceMethod yX6_isNext, Cond.selects RX6 yX6_isNext yX6_isNext, Cond.code yX6_isNext cX6_isNext 5 (some .boolean), Cond.fieldLink RX6 53 "ProofCheckerModel" "width" "I"]
def wsX6_test : List Cond := .code yX6_test cX6_test 2 (some .int) :: ((wsX6_test_r1 ++ wsX6_test_r2) ++ wsX60)
def wsX6_firstFailing_r1 : List Cond := [Cond.fieldLink RX6 70 "ProofCheckerModel" "rules" "I", Cond.methodLink RX6 100 yX6_testRule, Cond.instanceMethod yX6_testRule, Cond.selects RX6 yX6_testRule yX6_testRule, Cond.initialized RX6, Cond.code yX6_testRule cX6_testRule 3 (some .int), Cond.fieldLink RX6 16 "ProofCheckerModel" "ruleSize" "[I", Cond.fieldLink RX6 43 "ProofCheckerModel" "fill" "[I", Cond.fieldLink RX6 22 "ProofCheckerModel" "answer" "[I", Cond.methodLink RX6 73 yX6_member, Cond.instanceMethod yX6_member, Cond.selects RX6 yX6_member yX6_member, Cond.code yX6_member cX6_member 3 (some .int), Cond.fieldLink RX6 19 "ProofCheckerModel" "ruleCell" "[I", Cond.methodLink RX6 97 yX6_meets, Cond.instanceMethod yX6_meets, Cond.selects RX6 yX6_meets yX6_meets, Cond.code yX6_meets cX6_meets 9 (some .boolean), Cond.fieldLink RX6 7 "ProofCheckerModel" "ruleKind" "[I", Cond.fieldLink RX6 13 "ProofCheckerModel" "ruleNumber" "[I", Cond.methodLink RX6 94 yX6_hangs, Cond.instanceMethod yX6_hangs, Cond.selects RX6 yX6_hangs yX6_hangs, Cond.code yX6_hangs cX6_hangs 8 (some .boolean)]
def wsX6_firstFailing_r2 : List Cond := [Cond.methodLink RX6 90 yX6_isNext, Cond.instanceMethod yX6_isNext, Cond.selects RX6 yX6_isNext yX6_isNext, Cond.code yX6_isNext cX6_isNext 5 (some .boolean), Cond.fieldLink RX6 53 "ProofCheckerModel" "width" "I"]
def wsX6_firstFailing : List Cond := .code yX6_firstFailing cX6_firstFailing 2 (some .int) :: ((wsX6_firstFailing_r1 ++ wsX6_firstFailing_r2) ++ wsX60)
def wsX6_fails_r1 : List Cond := [Cond.fieldLink RX6 63 "ProofCheckerModel" "thrown" "I", Cond.methodLink RX6 104 yX6_firstFailing, Cond.instanceMethod yX6_firstFailing, Cond.selects RX6 yX6_firstFailing yX6_firstFailing, Cond.initialized RX6, Cond.code yX6_firstFailing cX6_firstFailing 2 (some .int), Cond.fieldLink RX6 70 "ProofCheckerModel" "rules" "I", Cond.methodLink RX6 100 yX6_testRule, Cond.instanceMethod yX6_testRule, Cond.selects RX6 yX6_testRule yX6_testRule, Cond.code yX6_testRule cX6_testRule 3 (some .int), Cond.fieldLink RX6 16 "ProofCheckerModel" "ruleSize" "[I", Cond.fieldLink RX6 43 "ProofCheckerModel" "fill" "[I", Cond.fieldLink RX6 22 "ProofCheckerModel" "answer" "[I", Cond.methodLink RX6 73 yX6_member, Cond.instanceMethod yX6_member, Cond.selects RX6 yX6_member yX6_member, Cond.code yX6_member cX6_member 3 (some .int), Cond.fieldLink RX6 19 "ProofCheckerModel" "ruleCell" "[I", Cond.methodLink RX6 97 yX6_meets, Cond.instanceMethod yX6_meets, Cond.selects RX6 yX6_meets yX6_meets, Cond.code yX6_meets cX6_meets 9 (some .boolean), Cond.fieldLink RX6 7 "ProofCheckerModel" "ruleKind" "[I"]
def wsX6_fails_r2 : List Cond := [Cond.fieldLink RX6 13 "ProofCheckerModel" "ruleNumber" "[I", Cond.methodLink RX6 94 yX6_hangs, Cond.instanceMethod yX6_hangs, Cond.selects RX6 yX6_hangs yX6_hangs, Cond.code yX6_hangs cX6_hangs 8 (some .boolean), Cond.methodLink RX6 90 yX6_isNext, Cond.instanceMethod yX6_isNext, Cond.selects RX6 yX6_isNext yX6_isNext, Cond.code yX6_isNext cX6_isNext 5 (some .boolean), Cond.fieldLink RX6 53 "ProofCheckerModel" "width" "I"]
def wsX6_fails : List Cond := .code yX6_fails cX6_fails 1 (some .int) :: ((wsX6_fails_r1 ++ wsX6_fails_r2) ++ wsX60)
def wsX6_begin : List Cond := .code yX6_begin cX6_begin 4 none :: ([.fieldLink RX6 25 "ProofCheckerModel" "lineKind" "[I", .fieldLink RX6 28 "ProofCheckerModel" "lineNumber" "[I", .fieldLink RX6 31 "ProofCheckerModel" "lineSize" "[I"] ++ wsX60)
def wsX6_line : List Cond := .code yX6_line cX6_line 3 (some .int) :: ([.fieldLink RX6 63 "ProofCheckerModel" "thrown" "I", .fieldLink RX6 107 "ProofCheckerModel" "lines" "I", .methodLink RX6 110 yX6_begin, .instanceMethod yX6_begin, .selects RX6 yX6_begin yX6_begin, .initialized RX6, .code yX6_begin cX6_begin 4 none, .fieldLink RX6 25 "ProofCheckerModel" "lineKind" "[I", .fieldLink RX6 28 "ProofCheckerModel" "lineNumber" "[I", .fieldLink RX6 31 "ProofCheckerModel" "lineSize" "[I"] ++ wsX60)
def wsX6_has : List Cond := .code yX6_has cX6_has 4 (some .boolean) :: ([.fieldLink RX6 31 "ProofCheckerModel" "lineSize" "[I", .fieldLink RX6 34 "ProofCheckerModel" "literal" "[I"] ++ wsX60)
def wsX6_literalOf : List Cond := .code yX6_literalOf cX6_literalOf 4 (some .int) :: ([.fieldLink RX6 60 "ProofCheckerModel" "symbols" "I"] ++ wsX60)
def wsX6_add : List Cond := .code yX6_add cX6_add 3 none :: ([.fieldLink RX6 34 "ProofCheckerModel" "literal" "[I", .fieldLink RX6 31 "ProofCheckerModel" "lineSize" "[I"] ++ wsX60)
def wsX6_literal_r1 : List Cond := [Cond.fieldLink RX6 107 "ProofCheckerModel" "lines" "I", Cond.fieldLink RX6 31 "ProofCheckerModel" "lineSize" "[I", Cond.methodLink RX6 76 yX6_isCell, Cond.instanceMethod yX6_isCell, Cond.selects RX6 yX6_isCell yX6_isCell, Cond.initialized RX6, Cond.code yX6_isCell cX6_isCell 2 (some .boolean), Cond.methodLink RX6 66 yX6_cells, Cond.instanceMethod yX6_cells, Cond.selects RX6 yX6_cells yX6_cells, Cond.code yX6_cells cX6_cells 1 (some .int), Cond.fieldLink RX6 53 "ProofCheckerModel" "width" "I", Cond.fieldLink RX6 57 "ProofCheckerModel" "height" "I", Cond.methodLink RX6 80 yX6_throwsIf, Cond.instanceMethod yX6_throwsIf, Cond.selects RX6 yX6_throwsIf yX6_throwsIf, Cond.code yX6_throwsIf cX6_throwsIf 3 (some .boolean), Cond.fieldLink RX6 63 "ProofCheckerModel" "thrown" "I", Cond.methodLink RX6 87 yX6_isSymbol, Cond.instanceMethod yX6_isSymbol, Cond.selects RX6 yX6_isSymbol yX6_isSymbol, Cond.code yX6_isSymbol cX6_isSymbol 2 (some .boolean), Cond.fieldLink RX6 60 "ProofCheckerModel" "symbols" "I", Cond.methodLink RX6 114 yX6_literalOf]
def wsX6_literal_r2 : List Cond := [Cond.instanceMethod yX6_literalOf, Cond.selects RX6 yX6_literalOf yX6_literalOf, Cond.code yX6_literalOf cX6_literalOf 4 (some .int), Cond.methodLink RX6 118 yX6_has, Cond.instanceMethod yX6_has, Cond.selects RX6 yX6_has yX6_has, Cond.code yX6_has cX6_has 4 (some .boolean), Cond.fieldLink RX6 34 "ProofCheckerModel" "literal" "[I", Cond.methodLink RX6 121 yX6_add, Cond.instanceMethod yX6_add, Cond.selects RX6 yX6_add yX6_add, Cond.code yX6_add cX6_add 3 none]
def wsX6_literal : List Cond := .code yX6_literal cX6_literal 4 (some .boolean) :: ((wsX6_literal_r1 ++ wsX6_literal_r2) ++ wsX60)
def wsX6_drop : List Cond := .code yX6_drop cX6_drop 1 (some .boolean) :: ([.fieldLink RX6 63 "ProofCheckerModel" "thrown" "I", .fieldLink RX6 107 "ProofCheckerModel" "lines" "I"] ++ wsX60)
def wsX6_cellOf : List Cond := .code yX6_cellOf cX6_cellOf 2 (some .int) :: ([.fieldLink RX6 60 "ProofCheckerModel" "symbols" "I"] ++ wsX60)
def wsX6_symbolOf : List Cond := .code yX6_symbolOf cX6_symbolOf 2 (some .int) :: ([.fieldLink RX6 60 "ProofCheckerModel" "symbols" "I"] ++ wsX60)
def wsX6_isFilled : List Cond := .code yX6_isFilled cX6_isFilled 4 (some .boolean) :: ([.fieldLink RX6 43 "ProofCheckerModel" "fill" "[I", .methodLink RX6 125 yX6_cellOf, .instanceMethod yX6_cellOf, .selects RX6 yX6_cellOf yX6_cellOf, .initialized RX6, .code yX6_cellOf cX6_cellOf 2 (some .int), .fieldLink RX6 60 "ProofCheckerModel" "symbols" "I", .methodLink RX6 84 yX6_seat, .instanceMethod yX6_seat, .selects RX6 yX6_seat yX6_seat, .code yX6_seat cX6_seat 4 (some .int), .fieldLink RX6 16 "ProofCheckerModel" "ruleSize" "[I", .methodLink RX6 73 yX6_member, .instanceMethod yX6_member, .selects RX6 yX6_member yX6_member, .code yX6_member cX6_member 3 (some .int), .fieldLink RX6 19 "ProofCheckerModel" "ruleCell" "[I", .methodLink RX6 128 yX6_symbolOf, .instanceMethod yX6_symbolOf, .selects RX6 yX6_symbolOf yX6_symbolOf, .code yX6_symbolOf cX6_symbolOf 2 (some .int)] ++ wsX60)
def wsX6_byRule_r1 : List Cond := [Cond.fieldLink RX6 28 "ProofCheckerModel" "lineNumber" "[I", Cond.fieldLink RX6 70 "ProofCheckerModel" "rules" "I", Cond.fieldLink RX6 16 "ProofCheckerModel" "ruleSize" "[I", Cond.fieldLink RX6 60 "ProofCheckerModel" "symbols" "I", Cond.fieldLink RX6 43 "ProofCheckerModel" "fill" "[I", Cond.fieldLink RX6 31 "ProofCheckerModel" "lineSize" "[I", Cond.fieldLink RX6 34 "ProofCheckerModel" "literal" "[I", Cond.methodLink RX6 97 yX6_meets, Cond.instanceMethod yX6_meets, Cond.selects RX6 yX6_meets yX6_meets, Cond.initialized RX6, Cond.code yX6_meets cX6_meets 9 (some .boolean), Cond.fieldLink RX6 7 "ProofCheckerModel" "ruleKind" "[I", Cond.fieldLink RX6 13 "ProofCheckerModel" "ruleNumber" "[I", Cond.methodLink RX6 94 yX6_hangs, Cond.instanceMethod yX6_hangs, Cond.selects RX6 yX6_hangs yX6_hangs, Cond.code yX6_hangs cX6_hangs 8 (some .boolean), Cond.methodLink RX6 73 yX6_member, Cond.instanceMethod yX6_member, Cond.selects RX6 yX6_member yX6_member, Cond.code yX6_member cX6_member 3 (some .int), Cond.fieldLink RX6 19 "ProofCheckerModel" "ruleCell" "[I", Cond.methodLink RX6 90 yX6_isNext]
def wsX6_byRule_r2 : List Cond := [Cond.instanceMethod yX6_isNext, Cond.selects RX6 yX6_isNext yX6_isNext, Cond.code yX6_isNext cX6_isNext 5 (some .boolean), Cond.fieldLink RX6 53 "ProofCheckerModel" "width" "I", Cond.methodLink RX6 131 yX6_isFilled, Cond.instanceMethod yX6_isFilled, Cond.selects RX6 yX6_isFilled yX6_isFilled, Cond.code yX6_isFilled cX6_isFilled 4 (some .boolean), Cond.methodLink RX6 125 yX6_cellOf, Cond.instanceMethod yX6_cellOf, Cond.selects RX6 yX6_cellOf yX6_cellOf, Cond.code yX6_cellOf cX6_cellOf 2 (some .int), Cond.methodLink RX6 84 yX6_seat, Cond.instanceMethod yX6_seat, Cond.selects RX6 yX6_seat yX6_seat, Cond.code yX6_seat cX6_seat 4 (some .int), Cond.methodLink RX6 128 yX6_symbolOf, Cond.instanceMethod yX6_symbolOf, Cond.selects RX6 yX6_symbolOf yX6_symbolOf, Cond.code yX6_symbolOf cX6_symbolOf 2 (some .int)]
def wsX6_byRule : List Cond := .code yX6_byRule cX6_byRule 8 (some .boolean) :: ((wsX6_byRule_r1 ++ wsX6_byRule_r2) ++ wsX60)
def wsX6_all : List Cond := .code yX6_all cX6_all 2 none :: ([.fieldLink RX6 134 "ProofCheckerModel" "cannot" "Z", .fieldLink RX6 37 "ProofCheckerModel" "may" "[I", .fieldLink RX6 60 "ProofCheckerModel" "symbols" "I"] ++ wsX60)
def wsX6_make : List Cond := .code yX6_make cX6_make 4 none :: ([.fieldLink RX6 37 "ProofCheckerModel" "may" "[I", .fieldLink RX6 134 "ProofCheckerModel" "cannot" "Z", .methodLink RX6 125 yX6_cellOf, .instanceMethod yX6_cellOf, .selects RX6 yX6_cellOf yX6_cellOf, .initialized RX6, .code yX6_cellOf cX6_cellOf 2 (some .int), .fieldLink RX6 60 "ProofCheckerModel" "symbols" "I", .methodLink RX6 128 yX6_symbolOf, .instanceMethod yX6_symbolOf, .selects RX6 yX6_symbolOf yX6_symbolOf, .code yX6_symbolOf cX6_symbolOf 2 (some .int)] ++ wsX60)
def wsX6_how : List Cond := .code yX6_how cX6_how 5 (some .int) :: ([.fieldLink RX6 37 "ProofCheckerModel" "may" "[I", .methodLink RX6 128 yX6_symbolOf, .instanceMethod yX6_symbolOf, .selects RX6 yX6_symbolOf yX6_symbolOf, .initialized RX6, .code yX6_symbolOf cX6_symbolOf 2 (some .int), .fieldLink RX6 60 "ProofCheckerModel" "symbols" "I", .methodLink RX6 125 yX6_cellOf, .instanceMethod yX6_cellOf, .selects RX6 yX6_cellOf yX6_cellOf, .code yX6_cellOf cX6_cellOf 2 (some .int)] ++ wsX60)
def wsX6_units : List Cond := .code yX6_units cX6_units 9 none :: ([.fieldLink RX6 134 "ProofCheckerModel" "cannot" "Z", .fieldLink RX6 31 "ProofCheckerModel" "lineSize" "[I", .fieldLink RX6 34 "ProofCheckerModel" "literal" "[I", .methodLink RX6 138 yX6_how, .instanceMethod yX6_how, .selects RX6 yX6_how yX6_how, .initialized RX6, .code yX6_how cX6_how 5 (some .int), .fieldLink RX6 37 "ProofCheckerModel" "may" "[I", .methodLink RX6 128 yX6_symbolOf, .instanceMethod yX6_symbolOf, .selects RX6 yX6_symbolOf yX6_symbolOf, .code yX6_symbolOf cX6_symbolOf 2 (some .int), .fieldLink RX6 60 "ProofCheckerModel" "symbols" "I", .methodLink RX6 125 yX6_cellOf, .instanceMethod yX6_cellOf, .selects RX6 yX6_cellOf yX6_cellOf, .code yX6_cellOf cX6_cellOf 2 (some .int), .methodLink RX6 141 yX6_make, .instanceMethod yX6_make, .selects RX6 yX6_make yX6_make, .code yX6_make cX6_make 4 none] ++ wsX60)
def wsX6_turned_r1 : List Cond := [Cond.fieldLink RX6 31 "ProofCheckerModel" "lineSize" "[I", Cond.fieldLink RX6 34 "ProofCheckerModel" "literal" "[I", Cond.methodLink RX6 145 yX6_all, Cond.instanceMethod yX6_all, Cond.selects RX6 yX6_all yX6_all, Cond.initialized RX6, Cond.code yX6_all cX6_all 2 none, Cond.fieldLink RX6 134 "ProofCheckerModel" "cannot" "Z", Cond.fieldLink RX6 37 "ProofCheckerModel" "may" "[I", Cond.fieldLink RX6 60 "ProofCheckerModel" "symbols" "I", Cond.methodLink RX6 141 yX6_make, Cond.instanceMethod yX6_make, Cond.selects RX6 yX6_make yX6_make, Cond.code yX6_make cX6_make 4 none, Cond.methodLink RX6 125 yX6_cellOf, Cond.instanceMethod yX6_cellOf, Cond.selects RX6 yX6_cellOf yX6_cellOf, Cond.code yX6_cellOf cX6_cellOf 2 (some .int), Cond.methodLink RX6 128 yX6_symbolOf, Cond.instanceMethod yX6_symbolOf, Cond.selects RX6 yX6_symbolOf yX6_symbolOf, Cond.code yX6_symbolOf cX6_symbolOf 2 (some .int), Cond.methodLink RX6 148 yX6_units, Cond.instanceMethod yX6_units]
def wsX6_turned_r2 : List Cond := [Cond.selects RX6 yX6_units yX6_units, Cond.code yX6_units cX6_units 9 none, Cond.methodLink RX6 138 yX6_how, Cond.instanceMethod yX6_how, Cond.selects RX6 yX6_how yX6_how, Cond.code yX6_how cX6_how 5 (some .int)]
def wsX6_turned : List Cond := .code yX6_turned cX6_turned 3 none :: ((wsX6_turned_r1 ++ wsX6_turned_r2) ++ wsX60)
def wsX6_bySplit_r1 : List Cond := [Cond.fieldLink RX6 28 "ProofCheckerModel" "lineNumber" "[I", Cond.fieldLink RX6 134 "ProofCheckerModel" "cannot" "Z", Cond.fieldLink RX6 40 "ProofCheckerModel" "kept" "[I", Cond.fieldLink RX6 37 "ProofCheckerModel" "may" "[I", Cond.fieldLink RX6 60 "ProofCheckerModel" "symbols" "I", Cond.methodLink RX6 76 yX6_isCell, Cond.instanceMethod yX6_isCell, Cond.selects RX6 yX6_isCell yX6_isCell, Cond.initialized RX6, Cond.code yX6_isCell cX6_isCell 2 (some .boolean), Cond.methodLink RX6 66 yX6_cells, Cond.instanceMethod yX6_cells, Cond.selects RX6 yX6_cells yX6_cells, Cond.code yX6_cells cX6_cells 1 (some .int), Cond.fieldLink RX6 53 "ProofCheckerModel" "width" "I", Cond.fieldLink RX6 57 "ProofCheckerModel" "height" "I", Cond.methodLink RX6 151 yX6_turned, Cond.instanceMethod yX6_turned, Cond.selects RX6 yX6_turned yX6_turned, Cond.code yX6_turned cX6_turned 3 none, Cond.fieldLink RX6 31 "ProofCheckerModel" "lineSize" "[I", Cond.fieldLink RX6 34 "ProofCheckerModel" "literal" "[I", Cond.methodLink RX6 145 yX6_all, Cond.instanceMethod yX6_all]
def wsX6_bySplit_r2 : List Cond := [Cond.selects RX6 yX6_all yX6_all, Cond.code yX6_all cX6_all 2 none, Cond.methodLink RX6 141 yX6_make, Cond.instanceMethod yX6_make, Cond.selects RX6 yX6_make yX6_make, Cond.code yX6_make cX6_make 4 none, Cond.methodLink RX6 125 yX6_cellOf, Cond.instanceMethod yX6_cellOf, Cond.selects RX6 yX6_cellOf yX6_cellOf, Cond.code yX6_cellOf cX6_cellOf 2 (some .int), Cond.methodLink RX6 128 yX6_symbolOf, Cond.instanceMethod yX6_symbolOf, Cond.selects RX6 yX6_symbolOf yX6_symbolOf, Cond.code yX6_symbolOf cX6_symbolOf 2 (some .int), Cond.methodLink RX6 148 yX6_units, Cond.instanceMethod yX6_units, Cond.selects RX6 yX6_units yX6_units, Cond.code yX6_units cX6_units 9 none, Cond.methodLink RX6 138 yX6_how, Cond.instanceMethod yX6_how, Cond.selects RX6 yX6_how yX6_how, Cond.code yX6_how cX6_how 5 (some .int)]
def wsX6_bySplit : List Cond := .code yX6_bySplit cX6_bySplit 5 (some .boolean) :: ((wsX6_bySplit_r1 ++ wsX6_bySplit_r2) ++ wsX60)
def wsX6_isBarred_r1 : List Cond := [Cond.fieldLink RX6 31 "ProofCheckerModel" "lineSize" "[I", Cond.fieldLink RX6 22 "ProofCheckerModel" "answer" "[I", Cond.methodLink RX6 104 yX6_firstFailing, Cond.instanceMethod yX6_firstFailing, Cond.selects RX6 yX6_firstFailing yX6_firstFailing, Cond.initialized RX6, Cond.code yX6_firstFailing cX6_firstFailing 2 (some .int), Cond.fieldLink RX6 70 "ProofCheckerModel" "rules" "I", Cond.methodLink RX6 100 yX6_testRule, Cond.instanceMethod yX6_testRule, Cond.selects RX6 yX6_testRule yX6_testRule, Cond.code yX6_testRule cX6_testRule 3 (some .int), Cond.fieldLink RX6 16 "ProofCheckerModel" "ruleSize" "[I", Cond.fieldLink RX6 43 "ProofCheckerModel" "fill" "[I", Cond.methodLink RX6 73 yX6_member, Cond.instanceMethod yX6_member, Cond.selects RX6 yX6_member yX6_member, Cond.code yX6_member cX6_member 3 (some .int), Cond.fieldLink RX6 19 "ProofCheckerModel" "ruleCell" "[I", Cond.methodLink RX6 97 yX6_meets, Cond.instanceMethod yX6_meets, Cond.selects RX6 yX6_meets yX6_meets, Cond.code yX6_meets cX6_meets 9 (some .boolean), Cond.fieldLink RX6 7 "ProofCheckerModel" "ruleKind" "[I"]
def wsX6_isBarred_r2 : List Cond := [Cond.fieldLink RX6 13 "ProofCheckerModel" "ruleNumber" "[I", Cond.methodLink RX6 94 yX6_hangs, Cond.instanceMethod yX6_hangs, Cond.selects RX6 yX6_hangs yX6_hangs, Cond.code yX6_hangs cX6_hangs 8 (some .boolean), Cond.methodLink RX6 90 yX6_isNext, Cond.instanceMethod yX6_isNext, Cond.selects RX6 yX6_isNext yX6_isNext, Cond.code yX6_isNext cX6_isNext 5 (some .boolean), Cond.fieldLink RX6 53 "ProofCheckerModel" "width" "I", Cond.methodLink RX6 66 yX6_cells, Cond.instanceMethod yX6_cells, Cond.selects RX6 yX6_cells yX6_cells, Cond.code yX6_cells cX6_cells 1 (some .int), Cond.fieldLink RX6 57 "ProofCheckerModel" "height" "I", Cond.methodLink RX6 114 yX6_literalOf, Cond.instanceMethod yX6_literalOf, Cond.selects RX6 yX6_literalOf yX6_literalOf, Cond.code yX6_literalOf cX6_literalOf 4 (some .int), Cond.fieldLink RX6 60 "ProofCheckerModel" "symbols" "I", Cond.methodLink RX6 118 yX6_has, Cond.instanceMethod yX6_has, Cond.selects RX6 yX6_has yX6_has, Cond.code yX6_has cX6_has 4 (some .boolean)]
def wsX6_isBarred_r3 : List Cond := [Cond.fieldLink RX6 34 "ProofCheckerModel" "literal" "[I"]
def wsX6_isBarred : List Cond := .code yX6_isBarred cX6_isBarred 3 (some .boolean) :: ((wsX6_isBarred_r1 ++ (wsX6_isBarred_r2 ++ wsX6_isBarred_r3)) ++ wsX60)
def wsX6_isRight_r1 : List Cond := [Cond.fieldLink RX6 25 "ProofCheckerModel" "lineKind" "[I", Cond.fieldLink RX6 134 "ProofCheckerModel" "cannot" "Z", Cond.methodLink RX6 154 yX6_byRule, Cond.instanceMethod yX6_byRule, Cond.selects RX6 yX6_byRule yX6_byRule, Cond.initialized RX6, Cond.code yX6_byRule cX6_byRule 8 (some .boolean), Cond.fieldLink RX6 28 "ProofCheckerModel" "lineNumber" "[I", Cond.fieldLink RX6 70 "ProofCheckerModel" "rules" "I", Cond.fieldLink RX6 16 "ProofCheckerModel" "ruleSize" "[I", Cond.fieldLink RX6 60 "ProofCheckerModel" "symbols" "I", Cond.fieldLink RX6 43 "ProofCheckerModel" "fill" "[I", Cond.fieldLink RX6 31 "ProofCheckerModel" "lineSize" "[I", Cond.fieldLink RX6 34 "ProofCheckerModel" "literal" "[I", Cond.methodLink RX6 97 yX6_meets, Cond.instanceMethod yX6_meets, Cond.selects RX6 yX6_meets yX6_meets, Cond.code yX6_meets cX6_meets 9 (some .boolean), Cond.fieldLink RX6 7 "ProofCheckerModel" "ruleKind" "[I", Cond.fieldLink RX6 13 "ProofCheckerModel" "ruleNumber" "[I", Cond.methodLink RX6 94 yX6_hangs, Cond.instanceMethod yX6_hangs, Cond.selects RX6 yX6_hangs yX6_hangs, Cond.code yX6_hangs cX6_hangs 8 (some .boolean)]
def wsX6_isRight_r2 : List Cond := [Cond.methodLink RX6 73 yX6_member, Cond.instanceMethod yX6_member, Cond.selects RX6 yX6_member yX6_member, Cond.code yX6_member cX6_member 3 (some .int), Cond.fieldLink RX6 19 "ProofCheckerModel" "ruleCell" "[I", Cond.methodLink RX6 90 yX6_isNext, Cond.instanceMethod yX6_isNext, Cond.selects RX6 yX6_isNext yX6_isNext, Cond.code yX6_isNext cX6_isNext 5 (some .boolean), Cond.fieldLink RX6 53 "ProofCheckerModel" "width" "I", Cond.methodLink RX6 131 yX6_isFilled, Cond.instanceMethod yX6_isFilled, Cond.selects RX6 yX6_isFilled yX6_isFilled, Cond.code yX6_isFilled cX6_isFilled 4 (some .boolean), Cond.methodLink RX6 125 yX6_cellOf, Cond.instanceMethod yX6_cellOf, Cond.selects RX6 yX6_cellOf yX6_cellOf, Cond.code yX6_cellOf cX6_cellOf 2 (some .int), Cond.methodLink RX6 84 yX6_seat, Cond.instanceMethod yX6_seat, Cond.selects RX6 yX6_seat yX6_seat, Cond.code yX6_seat cX6_seat 4 (some .int), Cond.methodLink RX6 128 yX6_symbolOf, Cond.instanceMethod yX6_symbolOf]
def wsX6_isRight_r3 : List Cond := [Cond.selects RX6 yX6_symbolOf yX6_symbolOf, Cond.code yX6_symbolOf cX6_symbolOf 2 (some .int), Cond.methodLink RX6 151 yX6_turned, Cond.instanceMethod yX6_turned, Cond.selects RX6 yX6_turned yX6_turned, Cond.code yX6_turned cX6_turned 3 none, Cond.methodLink RX6 145 yX6_all, Cond.instanceMethod yX6_all, Cond.selects RX6 yX6_all yX6_all, Cond.code yX6_all cX6_all 2 none, Cond.fieldLink RX6 37 "ProofCheckerModel" "may" "[I", Cond.methodLink RX6 141 yX6_make, Cond.instanceMethod yX6_make, Cond.selects RX6 yX6_make yX6_make, Cond.code yX6_make cX6_make 4 none, Cond.methodLink RX6 148 yX6_units, Cond.instanceMethod yX6_units, Cond.selects RX6 yX6_units yX6_units, Cond.code yX6_units cX6_units 9 none, Cond.methodLink RX6 138 yX6_how, Cond.instanceMethod yX6_how, Cond.selects RX6 yX6_how yX6_how, Cond.code yX6_how cX6_how 5 (some .int), Cond.methodLink RX6 157 yX6_bySplit]
def wsX6_isRight_r4 : List Cond := [Cond.instanceMethod yX6_bySplit, Cond.selects RX6 yX6_bySplit yX6_bySplit, Cond.code yX6_bySplit cX6_bySplit 5 (some .boolean), Cond.fieldLink RX6 40 "ProofCheckerModel" "kept" "[I", Cond.methodLink RX6 76 yX6_isCell, Cond.instanceMethod yX6_isCell, Cond.selects RX6 yX6_isCell yX6_isCell, Cond.code yX6_isCell cX6_isCell 2 (some .boolean), Cond.methodLink RX6 66 yX6_cells, Cond.instanceMethod yX6_cells, Cond.selects RX6 yX6_cells yX6_cells, Cond.code yX6_cells cX6_cells 1 (some .int), Cond.fieldLink RX6 57 "ProofCheckerModel" "height" "I", Cond.methodLink RX6 160 yX6_isBarred, Cond.instanceMethod yX6_isBarred, Cond.selects RX6 yX6_isBarred yX6_isBarred, Cond.code yX6_isBarred cX6_isBarred 3 (some .boolean), Cond.fieldLink RX6 22 "ProofCheckerModel" "answer" "[I", Cond.methodLink RX6 104 yX6_firstFailing, Cond.instanceMethod yX6_firstFailing, Cond.selects RX6 yX6_firstFailing yX6_firstFailing, Cond.code yX6_firstFailing cX6_firstFailing 2 (some .int), Cond.methodLink RX6 100 yX6_testRule, Cond.instanceMethod yX6_testRule]
def wsX6_isRight_r5 : List Cond := [Cond.selects RX6 yX6_testRule yX6_testRule, Cond.code yX6_testRule cX6_testRule 3 (some .int), Cond.methodLink RX6 114 yX6_literalOf, Cond.instanceMethod yX6_literalOf, Cond.selects RX6 yX6_literalOf yX6_literalOf, Cond.code yX6_literalOf cX6_literalOf 4 (some .int), Cond.methodLink RX6 118 yX6_has, Cond.instanceMethod yX6_has, Cond.selects RX6 yX6_has yX6_has, Cond.code yX6_has cX6_has 4 (some .boolean)]
def wsX6_isRight : List Cond := .code yX6_isRight cX6_isRight 2 (some .boolean) :: ((wsX6_isRight_r1 ++ (wsX6_isRight_r2 ++ (wsX6_isRight_r3 ++ (wsX6_isRight_r4 ++ wsX6_isRight_r5)))) ++ wsX60)
def wsX6_right_r1 : List Cond := [Cond.fieldLink RX6 107 "ProofCheckerModel" "lines" "I", Cond.methodLink RX6 163 yX6_isRight, Cond.instanceMethod yX6_isRight, Cond.selects RX6 yX6_isRight yX6_isRight, Cond.initialized RX6, Cond.code yX6_isRight cX6_isRight 2 (some .boolean), Cond.fieldLink RX6 25 "ProofCheckerModel" "lineKind" "[I", Cond.fieldLink RX6 134 "ProofCheckerModel" "cannot" "Z", Cond.methodLink RX6 154 yX6_byRule, Cond.instanceMethod yX6_byRule, Cond.selects RX6 yX6_byRule yX6_byRule, Cond.code yX6_byRule cX6_byRule 8 (some .boolean), Cond.fieldLink RX6 28 "ProofCheckerModel" "lineNumber" "[I", Cond.fieldLink RX6 70 "ProofCheckerModel" "rules" "I", Cond.fieldLink RX6 16 "ProofCheckerModel" "ruleSize" "[I", Cond.fieldLink RX6 60 "ProofCheckerModel" "symbols" "I", Cond.fieldLink RX6 43 "ProofCheckerModel" "fill" "[I", Cond.fieldLink RX6 31 "ProofCheckerModel" "lineSize" "[I", Cond.fieldLink RX6 34 "ProofCheckerModel" "literal" "[I", Cond.methodLink RX6 97 yX6_meets, Cond.instanceMethod yX6_meets, Cond.selects RX6 yX6_meets yX6_meets, Cond.code yX6_meets cX6_meets 9 (some .boolean), Cond.fieldLink RX6 7 "ProofCheckerModel" "ruleKind" "[I"]
def wsX6_right_r2 : List Cond := [Cond.fieldLink RX6 13 "ProofCheckerModel" "ruleNumber" "[I", Cond.methodLink RX6 94 yX6_hangs, Cond.instanceMethod yX6_hangs, Cond.selects RX6 yX6_hangs yX6_hangs, Cond.code yX6_hangs cX6_hangs 8 (some .boolean), Cond.methodLink RX6 73 yX6_member, Cond.instanceMethod yX6_member, Cond.selects RX6 yX6_member yX6_member, Cond.code yX6_member cX6_member 3 (some .int), Cond.fieldLink RX6 19 "ProofCheckerModel" "ruleCell" "[I", Cond.methodLink RX6 90 yX6_isNext, Cond.instanceMethod yX6_isNext, Cond.selects RX6 yX6_isNext yX6_isNext, Cond.code yX6_isNext cX6_isNext 5 (some .boolean), Cond.fieldLink RX6 53 "ProofCheckerModel" "width" "I", Cond.methodLink RX6 131 yX6_isFilled, Cond.instanceMethod yX6_isFilled, Cond.selects RX6 yX6_isFilled yX6_isFilled, Cond.code yX6_isFilled cX6_isFilled 4 (some .boolean), Cond.methodLink RX6 125 yX6_cellOf, Cond.instanceMethod yX6_cellOf, Cond.selects RX6 yX6_cellOf yX6_cellOf, Cond.code yX6_cellOf cX6_cellOf 2 (some .int), Cond.methodLink RX6 84 yX6_seat]
def wsX6_right_r3 : List Cond := [Cond.instanceMethod yX6_seat, Cond.selects RX6 yX6_seat yX6_seat, Cond.code yX6_seat cX6_seat 4 (some .int), Cond.methodLink RX6 128 yX6_symbolOf, Cond.instanceMethod yX6_symbolOf, Cond.selects RX6 yX6_symbolOf yX6_symbolOf, Cond.code yX6_symbolOf cX6_symbolOf 2 (some .int), Cond.methodLink RX6 151 yX6_turned, Cond.instanceMethod yX6_turned, Cond.selects RX6 yX6_turned yX6_turned, Cond.code yX6_turned cX6_turned 3 none, Cond.methodLink RX6 145 yX6_all, Cond.instanceMethod yX6_all, Cond.selects RX6 yX6_all yX6_all, Cond.code yX6_all cX6_all 2 none, Cond.fieldLink RX6 37 "ProofCheckerModel" "may" "[I", Cond.methodLink RX6 141 yX6_make, Cond.instanceMethod yX6_make, Cond.selects RX6 yX6_make yX6_make, Cond.code yX6_make cX6_make 4 none, Cond.methodLink RX6 148 yX6_units, Cond.instanceMethod yX6_units, Cond.selects RX6 yX6_units yX6_units, Cond.code yX6_units cX6_units 9 none]
def wsX6_right_r4 : List Cond := [Cond.methodLink RX6 138 yX6_how, Cond.instanceMethod yX6_how, Cond.selects RX6 yX6_how yX6_how, Cond.code yX6_how cX6_how 5 (some .int), Cond.methodLink RX6 157 yX6_bySplit, Cond.instanceMethod yX6_bySplit, Cond.selects RX6 yX6_bySplit yX6_bySplit, Cond.code yX6_bySplit cX6_bySplit 5 (some .boolean), Cond.fieldLink RX6 40 "ProofCheckerModel" "kept" "[I", Cond.methodLink RX6 76 yX6_isCell, Cond.instanceMethod yX6_isCell, Cond.selects RX6 yX6_isCell yX6_isCell, Cond.code yX6_isCell cX6_isCell 2 (some .boolean), Cond.methodLink RX6 66 yX6_cells, Cond.instanceMethod yX6_cells, Cond.selects RX6 yX6_cells yX6_cells, Cond.code yX6_cells cX6_cells 1 (some .int), Cond.fieldLink RX6 57 "ProofCheckerModel" "height" "I", Cond.methodLink RX6 160 yX6_isBarred, Cond.instanceMethod yX6_isBarred, Cond.selects RX6 yX6_isBarred yX6_isBarred, Cond.code yX6_isBarred cX6_isBarred 3 (some .boolean), Cond.fieldLink RX6 22 "ProofCheckerModel" "answer" "[I", Cond.methodLink RX6 104 yX6_firstFailing]
def wsX6_right_r5 : List Cond := [Cond.instanceMethod yX6_firstFailing, Cond.selects RX6 yX6_firstFailing yX6_firstFailing, Cond.code yX6_firstFailing cX6_firstFailing 2 (some .int), Cond.methodLink RX6 100 yX6_testRule, Cond.instanceMethod yX6_testRule, Cond.selects RX6 yX6_testRule yX6_testRule, Cond.code yX6_testRule cX6_testRule 3 (some .int), Cond.methodLink RX6 114 yX6_literalOf, Cond.instanceMethod yX6_literalOf, Cond.selects RX6 yX6_literalOf yX6_literalOf, Cond.code yX6_literalOf cX6_literalOf 4 (some .int), Cond.methodLink RX6 118 yX6_has, Cond.instanceMethod yX6_has, Cond.selects RX6 yX6_has yX6_has, Cond.code yX6_has cX6_has 4 (some .boolean)]
def wsX6_right : List Cond := .code yX6_right cX6_right 2 (some .int) :: ((wsX6_right_r1 ++ (wsX6_right_r2 ++ (wsX6_right_r3 ++ (wsX6_right_r4 ++ wsX6_right_r5)))) ++ wsX60)
def wsX6_check_r1 : List Cond := [Cond.fieldLink RX6 63 "ProofCheckerModel" "thrown" "I", Cond.methodLink RX6 166 yX6_right, Cond.instanceMethod yX6_right, Cond.selects RX6 yX6_right yX6_right, Cond.initialized RX6, Cond.code yX6_right cX6_right 2 (some .int), Cond.fieldLink RX6 107 "ProofCheckerModel" "lines" "I", Cond.methodLink RX6 163 yX6_isRight, Cond.instanceMethod yX6_isRight, Cond.selects RX6 yX6_isRight yX6_isRight, Cond.code yX6_isRight cX6_isRight 2 (some .boolean), Cond.fieldLink RX6 25 "ProofCheckerModel" "lineKind" "[I", Cond.fieldLink RX6 134 "ProofCheckerModel" "cannot" "Z", Cond.methodLink RX6 154 yX6_byRule, Cond.instanceMethod yX6_byRule, Cond.selects RX6 yX6_byRule yX6_byRule, Cond.code yX6_byRule cX6_byRule 8 (some .boolean), Cond.fieldLink RX6 28 "ProofCheckerModel" "lineNumber" "[I", Cond.fieldLink RX6 70 "ProofCheckerModel" "rules" "I", Cond.fieldLink RX6 16 "ProofCheckerModel" "ruleSize" "[I", Cond.fieldLink RX6 60 "ProofCheckerModel" "symbols" "I", Cond.fieldLink RX6 43 "ProofCheckerModel" "fill" "[I", Cond.fieldLink RX6 31 "ProofCheckerModel" "lineSize" "[I", Cond.fieldLink RX6 34 "ProofCheckerModel" "literal" "[I"]
def wsX6_check_r2 : List Cond := [Cond.methodLink RX6 97 yX6_meets, Cond.instanceMethod yX6_meets, Cond.selects RX6 yX6_meets yX6_meets, Cond.code yX6_meets cX6_meets 9 (some .boolean), Cond.fieldLink RX6 7 "ProofCheckerModel" "ruleKind" "[I", Cond.fieldLink RX6 13 "ProofCheckerModel" "ruleNumber" "[I", Cond.methodLink RX6 94 yX6_hangs, Cond.instanceMethod yX6_hangs, Cond.selects RX6 yX6_hangs yX6_hangs, Cond.code yX6_hangs cX6_hangs 8 (some .boolean), Cond.methodLink RX6 73 yX6_member, Cond.instanceMethod yX6_member, Cond.selects RX6 yX6_member yX6_member, Cond.code yX6_member cX6_member 3 (some .int), Cond.fieldLink RX6 19 "ProofCheckerModel" "ruleCell" "[I", Cond.methodLink RX6 90 yX6_isNext, Cond.instanceMethod yX6_isNext, Cond.selects RX6 yX6_isNext yX6_isNext, Cond.code yX6_isNext cX6_isNext 5 (some .boolean), Cond.fieldLink RX6 53 "ProofCheckerModel" "width" "I", Cond.methodLink RX6 131 yX6_isFilled, Cond.instanceMethod yX6_isFilled, Cond.selects RX6 yX6_isFilled yX6_isFilled, Cond.code yX6_isFilled cX6_isFilled 4 (some .boolean)]
def wsX6_check_r3 : List Cond := [Cond.methodLink RX6 125 yX6_cellOf, Cond.instanceMethod yX6_cellOf, Cond.selects RX6 yX6_cellOf yX6_cellOf, Cond.code yX6_cellOf cX6_cellOf 2 (some .int), Cond.methodLink RX6 84 yX6_seat, Cond.instanceMethod yX6_seat, Cond.selects RX6 yX6_seat yX6_seat, Cond.code yX6_seat cX6_seat 4 (some .int), Cond.methodLink RX6 128 yX6_symbolOf, Cond.instanceMethod yX6_symbolOf, Cond.selects RX6 yX6_symbolOf yX6_symbolOf, Cond.code yX6_symbolOf cX6_symbolOf 2 (some .int), Cond.methodLink RX6 151 yX6_turned, Cond.instanceMethod yX6_turned, Cond.selects RX6 yX6_turned yX6_turned, Cond.code yX6_turned cX6_turned 3 none, Cond.methodLink RX6 145 yX6_all, Cond.instanceMethod yX6_all, Cond.selects RX6 yX6_all yX6_all, Cond.code yX6_all cX6_all 2 none, Cond.fieldLink RX6 37 "ProofCheckerModel" "may" "[I", Cond.methodLink RX6 141 yX6_make, Cond.instanceMethod yX6_make, Cond.selects RX6 yX6_make yX6_make]
def wsX6_check_r4 : List Cond := [Cond.code yX6_make cX6_make 4 none, Cond.methodLink RX6 148 yX6_units, Cond.instanceMethod yX6_units, Cond.selects RX6 yX6_units yX6_units, Cond.code yX6_units cX6_units 9 none, Cond.methodLink RX6 138 yX6_how, Cond.instanceMethod yX6_how, Cond.selects RX6 yX6_how yX6_how, Cond.code yX6_how cX6_how 5 (some .int), Cond.methodLink RX6 157 yX6_bySplit, Cond.instanceMethod yX6_bySplit, Cond.selects RX6 yX6_bySplit yX6_bySplit, Cond.code yX6_bySplit cX6_bySplit 5 (some .boolean), Cond.fieldLink RX6 40 "ProofCheckerModel" "kept" "[I", Cond.methodLink RX6 76 yX6_isCell, Cond.instanceMethod yX6_isCell, Cond.selects RX6 yX6_isCell yX6_isCell, Cond.code yX6_isCell cX6_isCell 2 (some .boolean), Cond.methodLink RX6 66 yX6_cells, Cond.instanceMethod yX6_cells, Cond.selects RX6 yX6_cells yX6_cells, Cond.code yX6_cells cX6_cells 1 (some .int), Cond.fieldLink RX6 57 "ProofCheckerModel" "height" "I", Cond.methodLink RX6 160 yX6_isBarred]
def wsX6_check_r5 : List Cond := [Cond.instanceMethod yX6_isBarred, Cond.selects RX6 yX6_isBarred yX6_isBarred, Cond.code yX6_isBarred cX6_isBarred 3 (some .boolean), Cond.fieldLink RX6 22 "ProofCheckerModel" "answer" "[I", Cond.methodLink RX6 104 yX6_firstFailing, Cond.instanceMethod yX6_firstFailing, Cond.selects RX6 yX6_firstFailing yX6_firstFailing, Cond.code yX6_firstFailing cX6_firstFailing 2 (some .int), Cond.methodLink RX6 100 yX6_testRule, Cond.instanceMethod yX6_testRule, Cond.selects RX6 yX6_testRule yX6_testRule, Cond.code yX6_testRule cX6_testRule 3 (some .int), Cond.methodLink RX6 114 yX6_literalOf, Cond.instanceMethod yX6_literalOf, Cond.selects RX6 yX6_literalOf yX6_literalOf, Cond.code yX6_literalOf cX6_literalOf 4 (some .int), Cond.methodLink RX6 118 yX6_has, Cond.instanceMethod yX6_has, Cond.selects RX6 yX6_has yX6_has, Cond.code yX6_has cX6_has 4 (some .boolean)]
def wsX6_check : List Cond := .code yX6_check cX6_check 1 (some .int) :: ((wsX6_check_r1 ++ (wsX6_check_r2 ++ (wsX6_check_r3 ++ (wsX6_check_r4 ++ wsX6_check_r5)))) ++ wsX60)
def wsX6_proves_r1 : List Cond := [Cond.fieldLink RX6 63 "ProofCheckerModel" "thrown" "I", Cond.fieldLink RX6 107 "ProofCheckerModel" "lines" "I", Cond.fieldLink RX6 31 "ProofCheckerModel" "lineSize" "[I", Cond.fieldLink RX6 25 "ProofCheckerModel" "lineKind" "[I", Cond.methodLink RX6 166 yX6_right, Cond.instanceMethod yX6_right, Cond.selects RX6 yX6_right yX6_right, Cond.initialized RX6, Cond.code yX6_right cX6_right 2 (some .int), Cond.methodLink RX6 163 yX6_isRight, Cond.instanceMethod yX6_isRight, Cond.selects RX6 yX6_isRight yX6_isRight, Cond.code yX6_isRight cX6_isRight 2 (some .boolean), Cond.fieldLink RX6 134 "ProofCheckerModel" "cannot" "Z", Cond.methodLink RX6 154 yX6_byRule, Cond.instanceMethod yX6_byRule, Cond.selects RX6 yX6_byRule yX6_byRule, Cond.code yX6_byRule cX6_byRule 8 (some .boolean), Cond.fieldLink RX6 28 "ProofCheckerModel" "lineNumber" "[I", Cond.fieldLink RX6 70 "ProofCheckerModel" "rules" "I", Cond.fieldLink RX6 16 "ProofCheckerModel" "ruleSize" "[I", Cond.fieldLink RX6 60 "ProofCheckerModel" "symbols" "I", Cond.fieldLink RX6 43 "ProofCheckerModel" "fill" "[I", Cond.fieldLink RX6 34 "ProofCheckerModel" "literal" "[I"]
def wsX6_proves_r2 : List Cond := [Cond.methodLink RX6 97 yX6_meets, Cond.instanceMethod yX6_meets, Cond.selects RX6 yX6_meets yX6_meets, Cond.code yX6_meets cX6_meets 9 (some .boolean), Cond.fieldLink RX6 7 "ProofCheckerModel" "ruleKind" "[I", Cond.fieldLink RX6 13 "ProofCheckerModel" "ruleNumber" "[I", Cond.methodLink RX6 94 yX6_hangs, Cond.instanceMethod yX6_hangs, Cond.selects RX6 yX6_hangs yX6_hangs, Cond.code yX6_hangs cX6_hangs 8 (some .boolean), Cond.methodLink RX6 73 yX6_member, Cond.instanceMethod yX6_member, Cond.selects RX6 yX6_member yX6_member, Cond.code yX6_member cX6_member 3 (some .int), Cond.fieldLink RX6 19 "ProofCheckerModel" "ruleCell" "[I", Cond.methodLink RX6 90 yX6_isNext, Cond.instanceMethod yX6_isNext, Cond.selects RX6 yX6_isNext yX6_isNext, Cond.code yX6_isNext cX6_isNext 5 (some .boolean), Cond.fieldLink RX6 53 "ProofCheckerModel" "width" "I", Cond.methodLink RX6 131 yX6_isFilled, Cond.instanceMethod yX6_isFilled, Cond.selects RX6 yX6_isFilled yX6_isFilled, Cond.code yX6_isFilled cX6_isFilled 4 (some .boolean)]
def wsX6_proves_r3 : List Cond := [Cond.methodLink RX6 125 yX6_cellOf, Cond.instanceMethod yX6_cellOf, Cond.selects RX6 yX6_cellOf yX6_cellOf, Cond.code yX6_cellOf cX6_cellOf 2 (some .int), Cond.methodLink RX6 84 yX6_seat, Cond.instanceMethod yX6_seat, Cond.selects RX6 yX6_seat yX6_seat, Cond.code yX6_seat cX6_seat 4 (some .int), Cond.methodLink RX6 128 yX6_symbolOf, Cond.instanceMethod yX6_symbolOf, Cond.selects RX6 yX6_symbolOf yX6_symbolOf, Cond.code yX6_symbolOf cX6_symbolOf 2 (some .int), Cond.methodLink RX6 151 yX6_turned, Cond.instanceMethod yX6_turned, Cond.selects RX6 yX6_turned yX6_turned, Cond.code yX6_turned cX6_turned 3 none, Cond.methodLink RX6 145 yX6_all, Cond.instanceMethod yX6_all, Cond.selects RX6 yX6_all yX6_all, Cond.code yX6_all cX6_all 2 none, Cond.fieldLink RX6 37 "ProofCheckerModel" "may" "[I", Cond.methodLink RX6 141 yX6_make, Cond.instanceMethod yX6_make, Cond.selects RX6 yX6_make yX6_make]
def wsX6_proves_r4 : List Cond := [Cond.code yX6_make cX6_make 4 none, Cond.methodLink RX6 148 yX6_units, Cond.instanceMethod yX6_units, Cond.selects RX6 yX6_units yX6_units, Cond.code yX6_units cX6_units 9 none, Cond.methodLink RX6 138 yX6_how, Cond.instanceMethod yX6_how, Cond.selects RX6 yX6_how yX6_how, Cond.code yX6_how cX6_how 5 (some .int), Cond.methodLink RX6 157 yX6_bySplit, Cond.instanceMethod yX6_bySplit, Cond.selects RX6 yX6_bySplit yX6_bySplit, Cond.code yX6_bySplit cX6_bySplit 5 (some .boolean), Cond.fieldLink RX6 40 "ProofCheckerModel" "kept" "[I", Cond.methodLink RX6 76 yX6_isCell, Cond.instanceMethod yX6_isCell, Cond.selects RX6 yX6_isCell yX6_isCell, Cond.code yX6_isCell cX6_isCell 2 (some .boolean), Cond.methodLink RX6 66 yX6_cells, Cond.instanceMethod yX6_cells, Cond.selects RX6 yX6_cells yX6_cells, Cond.code yX6_cells cX6_cells 1 (some .int), Cond.fieldLink RX6 57 "ProofCheckerModel" "height" "I", Cond.methodLink RX6 160 yX6_isBarred]
def wsX6_proves_r5 : List Cond := [Cond.instanceMethod yX6_isBarred, Cond.selects RX6 yX6_isBarred yX6_isBarred, Cond.code yX6_isBarred cX6_isBarred 3 (some .boolean), Cond.fieldLink RX6 22 "ProofCheckerModel" "answer" "[I", Cond.methodLink RX6 104 yX6_firstFailing, Cond.instanceMethod yX6_firstFailing, Cond.selects RX6 yX6_firstFailing yX6_firstFailing, Cond.code yX6_firstFailing cX6_firstFailing 2 (some .int), Cond.methodLink RX6 100 yX6_testRule, Cond.instanceMethod yX6_testRule, Cond.selects RX6 yX6_testRule yX6_testRule, Cond.code yX6_testRule cX6_testRule 3 (some .int), Cond.methodLink RX6 114 yX6_literalOf, Cond.instanceMethod yX6_literalOf, Cond.selects RX6 yX6_literalOf yX6_literalOf, Cond.code yX6_literalOf cX6_literalOf 4 (some .int), Cond.methodLink RX6 118 yX6_has, Cond.instanceMethod yX6_has, Cond.selects RX6 yX6_has yX6_has, Cond.code yX6_has cX6_has 4 (some .boolean)]
def wsX6_proves : List Cond := .code yX6_proves cX6_proves 2 (some .int) :: ((wsX6_proves_r1 ++ (wsX6_proves_r2 ++ (wsX6_proves_r3 ++ (wsX6_proves_r4 ++ wsX6_proves_r5)))) ++ wsX60)
def wsX6_tell : List Cond := .code yX6_tell cX6_tell 3 (some .int) :: ([.fieldLink RX6 107 "ProofCheckerModel" "lines" "I", .fieldLink RX6 25 "ProofCheckerModel" "lineKind" "[I", .fieldLink RX6 28 "ProofCheckerModel" "lineNumber" "[I", .fieldLink RX6 31 "ProofCheckerModel" "lineSize" "[I", .fieldLink RX6 34 "ProofCheckerModel" "literal" "[I", .methodLink RX6 80 yX6_throwsIf, .instanceMethod yX6_throwsIf, .selects RX6 yX6_throwsIf yX6_throwsIf, .initialized RX6, .code yX6_throwsIf cX6_throwsIf 3 (some .boolean), .fieldLink RX6 63 "ProofCheckerModel" "thrown" "I"] ++ wsX60)
def wsX6_may_r1 : List Cond := [Cond.fieldLink RX6 107 "ProofCheckerModel" "lines" "I", Cond.fieldLink RX6 134 "ProofCheckerModel" "cannot" "Z", Cond.fieldLink RX6 37 "ProofCheckerModel" "may" "[I", Cond.methodLink RX6 76 yX6_isCell, Cond.instanceMethod yX6_isCell, Cond.selects RX6 yX6_isCell yX6_isCell, Cond.initialized RX6, Cond.code yX6_isCell cX6_isCell 2 (some .boolean), Cond.methodLink RX6 66 yX6_cells, Cond.instanceMethod yX6_cells, Cond.selects RX6 yX6_cells yX6_cells, Cond.code yX6_cells cX6_cells 1 (some .int), Cond.fieldLink RX6 53 "ProofCheckerModel" "width" "I", Cond.fieldLink RX6 57 "ProofCheckerModel" "height" "I", Cond.methodLink RX6 80 yX6_throwsIf, Cond.instanceMethod yX6_throwsIf, Cond.selects RX6 yX6_throwsIf yX6_throwsIf, Cond.code yX6_throwsIf cX6_throwsIf 3 (some .boolean), Cond.fieldLink RX6 63 "ProofCheckerModel" "thrown" "I", Cond.methodLink RX6 145 yX6_all, Cond.instanceMethod yX6_all, Cond.selects RX6 yX6_all yX6_all, Cond.code yX6_all cX6_all 2 none, Cond.fieldLink RX6 60 "ProofCheckerModel" "symbols" "I"]
def wsX6_may_r2 : List Cond := [Cond.methodLink RX6 148 yX6_units, Cond.instanceMethod yX6_units, Cond.selects RX6 yX6_units yX6_units, Cond.code yX6_units cX6_units 9 none, Cond.fieldLink RX6 31 "ProofCheckerModel" "lineSize" "[I", Cond.fieldLink RX6 34 "ProofCheckerModel" "literal" "[I", Cond.methodLink RX6 138 yX6_how, Cond.instanceMethod yX6_how, Cond.selects RX6 yX6_how yX6_how, Cond.code yX6_how cX6_how 5 (some .int), Cond.methodLink RX6 128 yX6_symbolOf, Cond.instanceMethod yX6_symbolOf, Cond.selects RX6 yX6_symbolOf yX6_symbolOf, Cond.code yX6_symbolOf cX6_symbolOf 2 (some .int), Cond.methodLink RX6 125 yX6_cellOf, Cond.instanceMethod yX6_cellOf, Cond.selects RX6 yX6_cellOf yX6_cellOf, Cond.code yX6_cellOf cX6_cellOf 2 (some .int), Cond.methodLink RX6 141 yX6_make, Cond.instanceMethod yX6_make, Cond.selects RX6 yX6_make yX6_make, Cond.code yX6_make cX6_make 4 none]
def wsX6_may : List Cond := .code yX6_may cX6_may 2 (some .int) :: ((wsX6_may_r1 ++ wsX6_may_r2) ++ wsX60)
def wsX6_unit : List Cond := .code yX6_unit cX6_unit 2 (some .boolean) :: ([.fieldLink RX6 63 "ProofCheckerModel" "thrown" "I", .fieldLink RX6 169 "ProofCheckerModel" "size" "I", .fieldLink RX6 46 "ProofCheckerModel" "text" "[I"] ++ wsX60)
def wsX6_look : List Cond := .code yX6_look cX6_look 1 (some .int) :: ([.fieldLink RX6 172 "ProofCheckerModel" "at" "I", .fieldLink RX6 169 "ProofCheckerModel" "size" "I", .fieldLink RX6 46 "ProofCheckerModel" "text" "[I"] ++ wsX60)
def wsX6_isDigit : List Cond := .code yX6_isDigit cX6_isDigit 1 (some .boolean) :: ([.methodLink RX6 175 yX6_look, .instanceMethod yX6_look, .selects RX6 yX6_look yX6_look, .initialized RX6, .code yX6_look cX6_look 1 (some .int), .fieldLink RX6 172 "ProofCheckerModel" "at" "I", .fieldLink RX6 169 "ProofCheckerModel" "size" "I", .fieldLink RX6 46 "ProofCheckerModel" "text" "[I"] ++ wsX60)
def wsX6_wrong : List Cond := .code yX6_wrong cX6_wrong 2 none :: ([.fieldLink RX6 178 "ProofCheckerModel" "bad" "I"] ++ wsX60)
def wsX6_number : List Cond := .code yX6_number cX6_number 2 (some .int) :: ([.fieldLink RX6 172 "ProofCheckerModel" "at" "I", .methodLink RX6 181 yX6_isDigit, .instanceMethod yX6_isDigit, .selects RX6 yX6_isDigit yX6_isDigit, .initialized RX6, .code yX6_isDigit cX6_isDigit 1 (some .boolean), .methodLink RX6 175 yX6_look, .instanceMethod yX6_look, .selects RX6 yX6_look yX6_look, .code yX6_look cX6_look 1 (some .int), .fieldLink RX6 169 "ProofCheckerModel" "size" "I", .fieldLink RX6 46 "ProofCheckerModel" "text" "[I", .methodLink RX6 185 yX6_wrong, .instanceMethod yX6_wrong, .selects RX6 yX6_wrong yX6_wrong, .code yX6_wrong cX6_wrong 2 none, .fieldLink RX6 178 "ProofCheckerModel" "bad" "I"] ++ wsX60)
def wsX6_expect : List Cond := .code yX6_expect cX6_expect 2 none :: ([.fieldLink RX6 178 "ProofCheckerModel" "bad" "I", .fieldLink RX6 172 "ProofCheckerModel" "at" "I", .methodLink RX6 175 yX6_look, .instanceMethod yX6_look, .selects RX6 yX6_look yX6_look, .initialized RX6, .code yX6_look cX6_look 1 (some .int), .fieldLink RX6 169 "ProofCheckerModel" "size" "I", .fieldLink RX6 46 "ProofCheckerModel" "text" "[I", .methodLink RX6 185 yX6_wrong, .instanceMethod yX6_wrong, .selects RX6 yX6_wrong yX6_wrong, .code yX6_wrong cX6_wrong 2 none] ++ wsX60)
def wsX6_readLiteral_r1 : List Cond := [Cond.fieldLink RX6 31 "ProofCheckerModel" "lineSize" "[I", Cond.fieldLink RX6 172 "ProofCheckerModel" "at" "I", Cond.fieldLink RX6 178 "ProofCheckerModel" "bad" "I", Cond.methodLink RX6 185 yX6_wrong, Cond.instanceMethod yX6_wrong, Cond.selects RX6 yX6_wrong yX6_wrong, Cond.initialized RX6, Cond.code yX6_wrong cX6_wrong 2 none, Cond.methodLink RX6 175 yX6_look, Cond.instanceMethod yX6_look, Cond.selects RX6 yX6_look yX6_look, Cond.code yX6_look cX6_look 1 (some .int), Cond.fieldLink RX6 169 "ProofCheckerModel" "size" "I", Cond.fieldLink RX6 46 "ProofCheckerModel" "text" "[I", Cond.methodLink RX6 188 yX6_number, Cond.instanceMethod yX6_number, Cond.selects RX6 yX6_number yX6_number, Cond.code yX6_number cX6_number 2 (some .int), Cond.methodLink RX6 181 yX6_isDigit, Cond.instanceMethod yX6_isDigit, Cond.selects RX6 yX6_isDigit yX6_isDigit, Cond.code yX6_isDigit cX6_isDigit 1 (some .boolean), Cond.methodLink RX6 76 yX6_isCell, Cond.instanceMethod yX6_isCell]
def wsX6_readLiteral_r2 : List Cond := [Cond.selects RX6 yX6_isCell yX6_isCell, Cond.code yX6_isCell cX6_isCell 2 (some .boolean), Cond.methodLink RX6 66 yX6_cells, Cond.instanceMethod yX6_cells, Cond.selects RX6 yX6_cells yX6_cells, Cond.code yX6_cells cX6_cells 1 (some .int), Cond.fieldLink RX6 53 "ProofCheckerModel" "width" "I", Cond.fieldLink RX6 57 "ProofCheckerModel" "height" "I", Cond.methodLink RX6 191 yX6_expect, Cond.instanceMethod yX6_expect, Cond.selects RX6 yX6_expect yX6_expect, Cond.code yX6_expect cX6_expect 2 none, Cond.methodLink RX6 87 yX6_isSymbol, Cond.instanceMethod yX6_isSymbol, Cond.selects RX6 yX6_isSymbol yX6_isSymbol, Cond.code yX6_isSymbol cX6_isSymbol 2 (some .boolean), Cond.fieldLink RX6 60 "ProofCheckerModel" "symbols" "I", Cond.methodLink RX6 114 yX6_literalOf, Cond.instanceMethod yX6_literalOf, Cond.selects RX6 yX6_literalOf yX6_literalOf, Cond.code yX6_literalOf cX6_literalOf 4 (some .int), Cond.methodLink RX6 118 yX6_has, Cond.instanceMethod yX6_has, Cond.selects RX6 yX6_has yX6_has]
def wsX6_readLiteral_r3 : List Cond := [Cond.code yX6_has cX6_has 4 (some .boolean), Cond.fieldLink RX6 34 "ProofCheckerModel" "literal" "[I", Cond.methodLink RX6 121 yX6_add, Cond.instanceMethod yX6_add, Cond.selects RX6 yX6_add yX6_add, Cond.code yX6_add cX6_add 3 none]
def wsX6_readLiteral : List Cond := .code yX6_readLiteral cX6_readLiteral 5 none :: ((wsX6_readLiteral_r1 ++ (wsX6_readLiteral_r2 ++ wsX6_readLiteral_r3)) ++ wsX60)
def wsX6_readLine_r1 : List Cond := [Cond.fieldLink RX6 172 "ProofCheckerModel" "at" "I", Cond.fieldLink RX6 178 "ProofCheckerModel" "bad" "I", Cond.methodLink RX6 175 yX6_look, Cond.instanceMethod yX6_look, Cond.selects RX6 yX6_look yX6_look, Cond.initialized RX6, Cond.code yX6_look cX6_look 1 (some .int), Cond.fieldLink RX6 169 "ProofCheckerModel" "size" "I", Cond.fieldLink RX6 46 "ProofCheckerModel" "text" "[I", Cond.methodLink RX6 185 yX6_wrong, Cond.instanceMethod yX6_wrong, Cond.selects RX6 yX6_wrong yX6_wrong, Cond.code yX6_wrong cX6_wrong 2 none, Cond.methodLink RX6 188 yX6_number, Cond.instanceMethod yX6_number, Cond.selects RX6 yX6_number yX6_number, Cond.code yX6_number cX6_number 2 (some .int), Cond.methodLink RX6 181 yX6_isDigit, Cond.instanceMethod yX6_isDigit, Cond.selects RX6 yX6_isDigit yX6_isDigit, Cond.code yX6_isDigit cX6_isDigit 1 (some .boolean), Cond.methodLink RX6 110 yX6_begin, Cond.instanceMethod yX6_begin, Cond.selects RX6 yX6_begin yX6_begin]
def wsX6_readLine_r2 : List Cond := [Cond.code yX6_begin cX6_begin 4 none, Cond.fieldLink RX6 25 "ProofCheckerModel" "lineKind" "[I", Cond.fieldLink RX6 28 "ProofCheckerModel" "lineNumber" "[I", Cond.fieldLink RX6 31 "ProofCheckerModel" "lineSize" "[I", Cond.methodLink RX6 194 yX6_readLiteral, Cond.instanceMethod yX6_readLiteral, Cond.selects RX6 yX6_readLiteral yX6_readLiteral, Cond.code yX6_readLiteral cX6_readLiteral 5 none, Cond.methodLink RX6 76 yX6_isCell, Cond.instanceMethod yX6_isCell, Cond.selects RX6 yX6_isCell yX6_isCell, Cond.code yX6_isCell cX6_isCell 2 (some .boolean), Cond.methodLink RX6 66 yX6_cells, Cond.instanceMethod yX6_cells, Cond.selects RX6 yX6_cells yX6_cells, Cond.code yX6_cells cX6_cells 1 (some .int), Cond.fieldLink RX6 53 "ProofCheckerModel" "width" "I", Cond.fieldLink RX6 57 "ProofCheckerModel" "height" "I", Cond.methodLink RX6 191 yX6_expect, Cond.instanceMethod yX6_expect, Cond.selects RX6 yX6_expect yX6_expect, Cond.code yX6_expect cX6_expect 2 none, Cond.methodLink RX6 87 yX6_isSymbol, Cond.instanceMethod yX6_isSymbol]
def wsX6_readLine_r3 : List Cond := [Cond.selects RX6 yX6_isSymbol yX6_isSymbol, Cond.code yX6_isSymbol cX6_isSymbol 2 (some .boolean), Cond.fieldLink RX6 60 "ProofCheckerModel" "symbols" "I", Cond.methodLink RX6 114 yX6_literalOf, Cond.instanceMethod yX6_literalOf, Cond.selects RX6 yX6_literalOf yX6_literalOf, Cond.code yX6_literalOf cX6_literalOf 4 (some .int), Cond.methodLink RX6 118 yX6_has, Cond.instanceMethod yX6_has, Cond.selects RX6 yX6_has yX6_has, Cond.code yX6_has cX6_has 4 (some .boolean), Cond.fieldLink RX6 34 "ProofCheckerModel" "literal" "[I", Cond.methodLink RX6 121 yX6_add, Cond.instanceMethod yX6_add, Cond.selects RX6 yX6_add yX6_add, Cond.code yX6_add cX6_add 3 none]
def wsX6_readLine : List Cond := .code yX6_readLine cX6_readLine 5 none :: ((wsX6_readLine_r1 ++ (wsX6_readLine_r2 ++ wsX6_readLine_r3)) ++ wsX60)
def wsX6_read_r1 : List Cond := [Cond.fieldLink RX6 63 "ProofCheckerModel" "thrown" "I", Cond.fieldLink RX6 172 "ProofCheckerModel" "at" "I", Cond.fieldLink RX6 178 "ProofCheckerModel" "bad" "I", Cond.fieldLink RX6 169 "ProofCheckerModel" "size" "I", Cond.fieldLink RX6 107 "ProofCheckerModel" "lines" "I", Cond.fieldLink RX6 25 "ProofCheckerModel" "lineKind" "[I", Cond.fieldLink RX6 28 "ProofCheckerModel" "lineNumber" "[I", Cond.fieldLink RX6 31 "ProofCheckerModel" "lineSize" "[I", Cond.fieldLink RX6 34 "ProofCheckerModel" "literal" "[I", Cond.methodLink RX6 197 yX6_readLine, Cond.instanceMethod yX6_readLine, Cond.selects RX6 yX6_readLine yX6_readLine, Cond.initialized RX6, Cond.code yX6_readLine cX6_readLine 5 none, Cond.methodLink RX6 175 yX6_look, Cond.instanceMethod yX6_look, Cond.selects RX6 yX6_look yX6_look, Cond.code yX6_look cX6_look 1 (some .int), Cond.fieldLink RX6 46 "ProofCheckerModel" "text" "[I", Cond.methodLink RX6 185 yX6_wrong, Cond.instanceMethod yX6_wrong, Cond.selects RX6 yX6_wrong yX6_wrong, Cond.code yX6_wrong cX6_wrong 2 none, Cond.methodLink RX6 188 yX6_number]
def wsX6_read_r2 : List Cond := [Cond.instanceMethod yX6_number, Cond.selects RX6 yX6_number yX6_number, Cond.code yX6_number cX6_number 2 (some .int), Cond.methodLink RX6 181 yX6_isDigit, Cond.instanceMethod yX6_isDigit, Cond.selects RX6 yX6_isDigit yX6_isDigit, Cond.code yX6_isDigit cX6_isDigit 1 (some .boolean), Cond.methodLink RX6 110 yX6_begin, Cond.instanceMethod yX6_begin, Cond.selects RX6 yX6_begin yX6_begin, Cond.code yX6_begin cX6_begin 4 none, Cond.methodLink RX6 194 yX6_readLiteral, Cond.instanceMethod yX6_readLiteral, Cond.selects RX6 yX6_readLiteral yX6_readLiteral, Cond.code yX6_readLiteral cX6_readLiteral 5 none, Cond.methodLink RX6 76 yX6_isCell, Cond.instanceMethod yX6_isCell, Cond.selects RX6 yX6_isCell yX6_isCell, Cond.code yX6_isCell cX6_isCell 2 (some .boolean), Cond.methodLink RX6 66 yX6_cells, Cond.instanceMethod yX6_cells, Cond.selects RX6 yX6_cells yX6_cells, Cond.code yX6_cells cX6_cells 1 (some .int), Cond.fieldLink RX6 53 "ProofCheckerModel" "width" "I"]
def wsX6_read_r3 : List Cond := [Cond.fieldLink RX6 57 "ProofCheckerModel" "height" "I", Cond.methodLink RX6 191 yX6_expect, Cond.instanceMethod yX6_expect, Cond.selects RX6 yX6_expect yX6_expect, Cond.code yX6_expect cX6_expect 2 none, Cond.methodLink RX6 87 yX6_isSymbol, Cond.instanceMethod yX6_isSymbol, Cond.selects RX6 yX6_isSymbol yX6_isSymbol, Cond.code yX6_isSymbol cX6_isSymbol 2 (some .boolean), Cond.fieldLink RX6 60 "ProofCheckerModel" "symbols" "I", Cond.methodLink RX6 114 yX6_literalOf, Cond.instanceMethod yX6_literalOf, Cond.selects RX6 yX6_literalOf yX6_literalOf, Cond.code yX6_literalOf cX6_literalOf 4 (some .int), Cond.methodLink RX6 118 yX6_has, Cond.instanceMethod yX6_has, Cond.selects RX6 yX6_has yX6_has, Cond.code yX6_has cX6_has 4 (some .boolean), Cond.methodLink RX6 121 yX6_add, Cond.instanceMethod yX6_add, Cond.selects RX6 yX6_add yX6_add, Cond.code yX6_add cX6_add 3 none]
def wsX6_read : List Cond := .code yX6_read cX6_read 4 (some .int) :: ((wsX6_read_r1 ++ (wsX6_read_r2 ++ wsX6_read_r3)) ++ wsX60)
def wsJx00060_init_a7421 : List Cond := .code yJx00060_init_a7421 cJx00060_init_a7421 2 none :: ([])
def wsJ9_max_7cf53 : List Cond := .code yJ9_max_7cf53 cJ9_max_7cf53 2 (some .int) :: ([])
def wsJ9_min_7cf53 : List Cond := .code yJ9_min_7cf53 cJ9_min_7cf53 2 (some .int) :: ([])
abbrev vwCl : List vw_C := [(RJx00060, TJx00060, 6), (RX0, TX0, 5), (RX1, TX1, 5), (RX2, TX2, 5), (RX3, TX3, 7), (RX4, TX4, 4), (RX5, TX5, 6), (RX6, TX6, 23)]
end
section
set_option maxRecDepth 20000 in
theorem ggX0_init_X0_within : GoodIn wsX0_init wsX0_within := goodIn_r _ [12, 13, 14, 15, 16, 17, 18, 19] (by decide +kernel) (by decide +kernel)
set_option maxRecDepth 20000 in
theorem gX0_init_X0_within : GoodIn wsX0_init (va_wsS RX0 9 yX0_within wsX0_within) := goodIn_app (goodIn_of _ (by decide +kernel)) ggX0_init_X0_within
theorem dX0_init_0 : decode cX0_init 0 = .ok (.aload_n 0, 1) := by decide +kernel
theorem dX0_init_1 : decode cX0_init 1 = .ok (.invokespecial 1, 3) := by decide +kernel
theorem dX0_init_4 : decode cX0_init 4 = .ok (.aload_n 0, 1) := by decide +kernel
theorem dX0_init_5 : decode cX0_init 5 = .ok (.iload_n 1, 1) := by decide +kernel
theorem dX0_init_6 : decode cX0_init 6 = .ok (.iconst 4, 1) := by decide +kernel
theorem dX0_init_7 : decode cX0_init 7 = .ok (.invokestatic 9, 3) := by decide +kernel
theorem dX0_init_10 : decode cX0_init 10 = .ok (.putfield 13, 3) := by decide +kernel
theorem dX0_init_13 : decode cX0_init 13 = .ok (.aload_n 0, 1) := by decide +kernel
theorem dX0_init_14 : decode cX0_init 14 = .ok (.aload_n 0, 1) := by decide +kernel
theorem dX0_init_15 : decode cX0_init 15 = .ok (.getfield 13, 3) := by decide +kernel
theorem dX0_init_18 : decode cX0_init 18 = .ok (.iload_n 2, 1) := by decide +kernel
theorem dX0_init_19 : decode cX0_init 19 = .ok (.iconst 4, 1) := by decide +kernel
theorem dX0_init_20 : decode cX0_init 20 = .ok (.invokestatic 9, 3) := by decide +kernel
theorem dX0_init_23 : decode cX0_init 23 = .ok (.imul, 1) := by decide +kernel
theorem dX0_init_24 : decode cX0_init 24 = .ok (.putfield 17, 3) := by decide +kernel
theorem dX0_init_27 : decode cX0_init 27 = .ok (.aload_n 0, 1) := by decide +kernel
theorem dX0_init_28 : decode cX0_init 28 = .ok (.iload_n 3, 1) := by decide +kernel
theorem dX0_init_29 : decode cX0_init 29 = .ok (.bipush 6, 2) := by decide +kernel
theorem dX0_init_31 : decode cX0_init 31 = .ok (.invokestatic 9, 3) := by decide +kernel
theorem dX0_init_34 : decode cX0_init 34 = .ok (.putfield 20, 3) := by decide +kernel
theorem dX0_init_37 : decode cX0_init 37 = .ok (.iconst 0, 1) := by decide +kernel
theorem dX0_init_38 : decode cX0_init 38 = .ok (.istore 4, 2) := by decide +kernel
theorem dX0_init_40 : decode cX0_init 40 = .ok (.iconst 0, 1) := by decide +kernel
theorem dX0_init_41 : decode cX0_init 41 = .ok (.istore 5, 2) := by decide +kernel
theorem dX0_init_43 : decode cX0_init 43 = .ok (.iload 5, 2) := by decide +kernel
theorem dX0_init_45 : decode cX0_init 45 = .ok (.aload_n 0, 1) := by decide +kernel
theorem dX0_init_46 : decode cX0_init 46 = .ok (.getfield 17, 3) := by decide +kernel
theorem dX0_init_49 : decode cX0_init 49 = .ok (.if_icmp .ge 24, 3) := by decide +kernel
theorem dX0_init_52 : decode cX0_init 52 = .ok (.iload 4, 2) := by decide +kernel
theorem dX0_init_54 : decode cX0_init 54 = .ok (.iconst 1, 1) := by decide +kernel
theorem dX0_init_55 : decode cX0_init 55 = .ok (.iload 5, 2) := by decide +kernel
theorem dX0_init_57 : decode cX0_init 57 = .ok (.ishl, 1) := by decide +kernel
theorem dX0_init_58 : decode cX0_init 58 = .ok (.ior, 1) := by decide +kernel
theorem dX0_init_59 : decode cX0_init 59 = .ok (.istore 4, 2) := by decide +kernel
theorem dX0_init_61 : decode cX0_init 61 = .ok (.iload 5, 2) := by decide +kernel
theorem dX0_init_63 : decode cX0_init 63 = .ok (.aload_n 0, 1) := by decide +kernel
theorem dX0_init_64 : decode cX0_init 64 = .ok (.getfield 13, 3) := by decide +kernel
theorem dX0_init_67 : decode cX0_init 67 = .ok (.iadd, 1) := by decide +kernel
theorem dX0_init_68 : decode cX0_init 68 = .ok (.istore 5, 2) := by decide +kernel
theorem dX0_init_70 : decode cX0_init 70 = .ok (.goto (-27), 3) := by decide +kernel
theorem dX0_init_73 : decode cX0_init 73 = .ok (.aload_n 0, 1) := by decide +kernel
theorem dX0_init_74 : decode cX0_init 74 = .ok (.iload 4, 2) := by decide +kernel
theorem dX0_init_76 : decode cX0_init 76 = .ok (.putfield 23, 3) := by decide +kernel
theorem dX0_init_79 : decode cX0_init 79 = .ok (.aload_n 0, 1) := by decide +kernel
theorem dX0_init_80 : decode cX0_init 80 = .ok (.iload 4, 2) := by decide +kernel
theorem dX0_init_82 : decode cX0_init 82 = .ok (.aload_n 0, 1) := by decide +kernel
theorem dX0_init_83 : decode cX0_init 83 = .ok (.getfield 13, 3) := by decide +kernel
theorem dX0_init_86 : decode cX0_init 86 = .ok (.iconst 1, 1) := by decide +kernel
theorem dX0_init_87 : decode cX0_init 87 = .ok (.isub, 1) := by decide +kernel
theorem dX0_init_88 : decode cX0_init 88 = .ok (.ishl, 1) := by decide +kernel
theorem dX0_init_89 : decode cX0_init 89 = .ok (.putfield 26, 3) := by decide +kernel
theorem dX0_init_92 : decode cX0_init 92 = .ok (.return_, 1) := by decide +kernel
theorem dX0_within_0 : decode cX0_within 0 = .ok (.iconst 1, 1) := by decide +kernel
theorem dX0_within_1 : decode cX0_within 1 = .ok (.iload_n 1, 1) := by decide +kernel
theorem dX0_within_2 : decode cX0_within 2 = .ok (.iload_n 0, 1) := by decide +kernel
theorem dX0_within_3 : decode cX0_within 3 = .ok (.invokestatic 29, 3) := by decide +kernel
theorem dX0_within_6 : decode cX0_within 6 = .ok (.invokestatic 34, 3) := by decide +kernel
theorem dX0_within_9 : decode cX0_within 9 = .ok (.ireturn, 1) := by decide +kernel
theorem dX0_cells_0 : decode cX0_cells 0 = .ok (.aload_n 0, 1) := by decide +kernel
theorem dX0_cells_1 : decode cX0_cells 1 = .ok (.getfield 17, 3) := by decide +kernel
theorem dX0_cells_4 : decode cX0_cells 4 = .ok (.ireturn, 1) := by decide +kernel
theorem dX0_symbols_0 : decode cX0_symbols 0 = .ok (.aload_n 0, 1) := by decide +kernel
theorem dX0_symbols_1 : decode cX0_symbols 1 = .ok (.getfield 20, 3) := by decide +kernel
theorem dX0_symbols_4 : decode cX0_symbols 4 = .ok (.ireturn, 1) := by decide +kernel
theorem dX0_allSymbols_0 : decode cX0_allSymbols 0 = .ok (.iconst 1, 1) := by decide +kernel
theorem dX0_allSymbols_1 : decode cX0_allSymbols 1 = .ok (.aload_n 0, 1) := by decide +kernel
theorem dX0_allSymbols_2 : decode cX0_allSymbols 2 = .ok (.getfield 20, 3) := by decide +kernel
theorem dX0_allSymbols_5 : decode cX0_allSymbols 5 = .ok (.ishl, 1) := by decide +kernel
theorem dX0_allSymbols_6 : decode cX0_allSymbols 6 = .ok (.iconst 1, 1) := by decide +kernel
theorem dX0_allSymbols_7 : decode cX0_allSymbols 7 = .ok (.isub, 1) := by decide +kernel
theorem dX0_allSymbols_8 : decode cX0_allSymbols 8 = .ok (.ireturn, 1) := by decide +kernel
theorem dX0_hasCell_0 : decode cX0_hasCell 0 = .ok (.iload_n 1, 1) := by decide +kernel
theorem dX0_hasCell_1 : decode cX0_hasCell 1 = .ok (.ifCond .lt 15, 3) := by decide +kernel
theorem dX0_hasCell_4 : decode cX0_hasCell 4 = .ok (.iload_n 1, 1) := by decide +kernel
theorem dX0_hasCell_5 : decode cX0_hasCell 5 = .ok (.aload_n 0, 1) := by decide +kernel
theorem dX0_hasCell_6 : decode cX0_hasCell 6 = .ok (.getfield 17, 3) := by decide +kernel
theorem dX0_hasCell_9 : decode cX0_hasCell 9 = .ok (.if_icmp .ge 7, 3) := by decide +kernel
theorem dX0_hasCell_12 : decode cX0_hasCell 12 = .ok (.iconst 1, 1) := by decide +kernel
theorem dX0_hasCell_13 : decode cX0_hasCell 13 = .ok (.goto 4, 3) := by decide +kernel
theorem dX0_hasCell_16 : decode cX0_hasCell 16 = .ok (.iconst 0, 1) := by decide +kernel
theorem dX0_hasCell_17 : decode cX0_hasCell 17 = .ok (.ireturn, 1) := by decide +kernel
theorem dX0_hasSymbol_0 : decode cX0_hasSymbol 0 = .ok (.iload_n 1, 1) := by decide +kernel
theorem dX0_hasSymbol_1 : decode cX0_hasSymbol 1 = .ok (.ifCond .lt 15, 3) := by decide +kernel
theorem dX0_hasSymbol_4 : decode cX0_hasSymbol 4 = .ok (.iload_n 1, 1) := by decide +kernel
theorem dX0_hasSymbol_5 : decode cX0_hasSymbol 5 = .ok (.aload_n 0, 1) := by decide +kernel
theorem dX0_hasSymbol_6 : decode cX0_hasSymbol 6 = .ok (.getfield 20, 3) := by decide +kernel
theorem dX0_hasSymbol_9 : decode cX0_hasSymbol 9 = .ok (.if_icmp .ge 7, 3) := by decide +kernel
theorem dX0_hasSymbol_12 : decode cX0_hasSymbol 12 = .ok (.iconst 1, 1) := by decide +kernel
theorem dX0_hasSymbol_13 : decode cX0_hasSymbol 13 = .ok (.goto 4, 3) := by decide +kernel
theorem dX0_hasSymbol_16 : decode cX0_hasSymbol 16 = .ok (.iconst 0, 1) := by decide +kernel
theorem dX0_hasSymbol_17 : decode cX0_hasSymbol 17 = .ok (.ireturn, 1) := by decide +kernel
set_option maxRecDepth 20000 in
theorem ggX0_hangTogether_X0_nextTo : GoodIn wsX0_hangTogether wsX0_nextTo := goodIn_r _ [6, 7, 8, 9, 10, 11, 12, 13, 14] (by decide +kernel) (by decide +kernel)
set_option maxRecDepth 20000 in
theorem gX0_hangTogether_X0_nextTo : GoodIn wsX0_hangTogether (wsV RX0 37 RX0 yX0_nextTo wsX0_nextTo) := goodIn_app (goodIn_of _ (by decide +kernel)) ggX0_hangTogether_X0_nextTo
theorem dX0_hangTogether_0 : decode cX0_hangTogether 0 = .ok (.iload_n 1, 1) := by decide +kernel
theorem dX0_hangTogether_1 : decode cX0_hangTogether 1 = .ok (.iload_n 1, 1) := by decide +kernel
theorem dX0_hangTogether_2 : decode cX0_hangTogether 2 = .ok (.ineg, 1) := by decide +kernel
theorem dX0_hangTogether_3 : decode cX0_hangTogether 3 = .ok (.iand, 1) := by decide +kernel
theorem dX0_hangTogether_4 : decode cX0_hangTogether 4 = .ok (.istore_n 2, 1) := by decide +kernel
theorem dX0_hangTogether_5 : decode cX0_hangTogether 5 = .ok (.iconst 0, 1) := by decide +kernel
theorem dX0_hangTogether_6 : decode cX0_hangTogether 6 = .ok (.istore_n 3, 1) := by decide +kernel
theorem dX0_hangTogether_7 : decode cX0_hangTogether 7 = .ok (.iload_n 3, 1) := by decide +kernel
theorem dX0_hangTogether_8 : decode cX0_hangTogether 8 = .ok (.aload_n 0, 1) := by decide +kernel
theorem dX0_hangTogether_9 : decode cX0_hangTogether 9 = .ok (.getfield 17, 3) := by decide +kernel
theorem dX0_hangTogether_12 : decode cX0_hangTogether 12 = .ok (.if_icmp .ge 24, 3) := by decide +kernel
theorem dX0_hangTogether_15 : decode cX0_hangTogether 15 = .ok (.iload_n 2, 1) := by decide +kernel
theorem dX0_hangTogether_16 : decode cX0_hangTogether 16 = .ok (.iload_n 1, 1) := by decide +kernel
theorem dX0_hangTogether_17 : decode cX0_hangTogether 17 = .ok (.if_icmp .eq 19, 3) := by decide +kernel
theorem dX0_hangTogether_20 : decode cX0_hangTogether 20 = .ok (.iload_n 2, 1) := by decide +kernel
theorem dX0_hangTogether_21 : decode cX0_hangTogether 21 = .ok (.aload_n 0, 1) := by decide +kernel
theorem dX0_hangTogether_22 : decode cX0_hangTogether 22 = .ok (.iload_n 2, 1) := by decide +kernel
theorem dX0_hangTogether_23 : decode cX0_hangTogether 23 = .ok (.invokevirtual 37, 3) := by decide +kernel
theorem dX0_hangTogether_26 : decode cX0_hangTogether 26 = .ok (.iload_n 1, 1) := by decide +kernel
theorem dX0_hangTogether_27 : decode cX0_hangTogether 27 = .ok (.iand, 1) := by decide +kernel
theorem dX0_hangTogether_28 : decode cX0_hangTogether 28 = .ok (.ior, 1) := by decide +kernel
theorem dX0_hangTogether_29 : decode cX0_hangTogether 29 = .ok (.istore_n 2, 1) := by decide +kernel
theorem dX0_hangTogether_30 : decode cX0_hangTogether 30 = .ok (.iinc 3 1, 3) := by decide +kernel
theorem dX0_hangTogether_33 : decode cX0_hangTogether 33 = .ok (.goto (-26), 3) := by decide +kernel
theorem dX0_hangTogether_36 : decode cX0_hangTogether 36 = .ok (.iload_n 2, 1) := by decide +kernel
theorem dX0_hangTogether_37 : decode cX0_hangTogether 37 = .ok (.iload_n 1, 1) := by decide +kernel
theorem dX0_hangTogether_38 : decode cX0_hangTogether 38 = .ok (.if_icmp .ne 7, 3) := by decide +kernel
theorem dX0_hangTogether_41 : decode cX0_hangTogether 41 = .ok (.iconst 1, 1) := by decide +kernel
theorem dX0_hangTogether_42 : decode cX0_hangTogether 42 = .ok (.goto 4, 3) := by decide +kernel
theorem dX0_hangTogether_45 : decode cX0_hangTogether 45 = .ok (.iconst 0, 1) := by decide +kernel
theorem dX0_hangTogether_46 : decode cX0_hangTogether 46 = .ok (.ireturn, 1) := by decide +kernel
theorem dX0_nextTo_0 : decode cX0_nextTo 0 = .ok (.iload_n 1, 1) := by decide +kernel
theorem dX0_nextTo_1 : decode cX0_nextTo 1 = .ok (.aload_n 0, 1) := by decide +kernel
theorem dX0_nextTo_2 : decode cX0_nextTo 2 = .ok (.getfield 13, 3) := by decide +kernel
theorem dX0_nextTo_5 : decode cX0_nextTo 5 = .ok (.ishr, 1) := by decide +kernel
theorem dX0_nextTo_6 : decode cX0_nextTo 6 = .ok (.iload_n 1, 1) := by decide +kernel
theorem dX0_nextTo_7 : decode cX0_nextTo 7 = .ok (.aload_n 0, 1) := by decide +kernel
theorem dX0_nextTo_8 : decode cX0_nextTo 8 = .ok (.getfield 13, 3) := by decide +kernel
theorem dX0_nextTo_11 : decode cX0_nextTo 11 = .ok (.ishl, 1) := by decide +kernel
theorem dX0_nextTo_12 : decode cX0_nextTo 12 = .ok (.ior, 1) := by decide +kernel
theorem dX0_nextTo_13 : decode cX0_nextTo 13 = .ok (.istore_n 2, 1) := by decide +kernel
theorem dX0_nextTo_14 : decode cX0_nextTo 14 = .ok (.iload_n 1, 1) := by decide +kernel
theorem dX0_nextTo_15 : decode cX0_nextTo 15 = .ok (.aload_n 0, 1) := by decide +kernel
theorem dX0_nextTo_16 : decode cX0_nextTo 16 = .ok (.getfield 23, 3) := by decide +kernel
theorem dX0_nextTo_19 : decode cX0_nextTo 19 = .ok (.iconst (-1), 1) := by decide +kernel
theorem dX0_nextTo_20 : decode cX0_nextTo 20 = .ok (.ixor, 1) := by decide +kernel
theorem dX0_nextTo_21 : decode cX0_nextTo 21 = .ok (.iand, 1) := by decide +kernel
theorem dX0_nextTo_22 : decode cX0_nextTo 22 = .ok (.iconst 1, 1) := by decide +kernel
theorem dX0_nextTo_23 : decode cX0_nextTo 23 = .ok (.ishr, 1) := by decide +kernel
theorem dX0_nextTo_24 : decode cX0_nextTo 24 = .ok (.istore_n 3, 1) := by decide +kernel
theorem dX0_nextTo_25 : decode cX0_nextTo 25 = .ok (.iload_n 1, 1) := by decide +kernel
theorem dX0_nextTo_26 : decode cX0_nextTo 26 = .ok (.aload_n 0, 1) := by decide +kernel
theorem dX0_nextTo_27 : decode cX0_nextTo 27 = .ok (.getfield 26, 3) := by decide +kernel
theorem dX0_nextTo_30 : decode cX0_nextTo 30 = .ok (.iconst (-1), 1) := by decide +kernel
theorem dX0_nextTo_31 : decode cX0_nextTo 31 = .ok (.ixor, 1) := by decide +kernel
theorem dX0_nextTo_32 : decode cX0_nextTo 32 = .ok (.iand, 1) := by decide +kernel
theorem dX0_nextTo_33 : decode cX0_nextTo 33 = .ok (.iconst 1, 1) := by decide +kernel
theorem dX0_nextTo_34 : decode cX0_nextTo 34 = .ok (.ishl, 1) := by decide +kernel
theorem dX0_nextTo_35 : decode cX0_nextTo 35 = .ok (.istore 4, 2) := by decide +kernel
theorem dX0_nextTo_37 : decode cX0_nextTo 37 = .ok (.iload_n 2, 1) := by decide +kernel
theorem dX0_nextTo_38 : decode cX0_nextTo 38 = .ok (.iload_n 3, 1) := by decide +kernel
theorem dX0_nextTo_39 : decode cX0_nextTo 39 = .ok (.ior, 1) := by decide +kernel
theorem dX0_nextTo_40 : decode cX0_nextTo 40 = .ok (.iload 4, 2) := by decide +kernel
theorem dX0_nextTo_42 : decode cX0_nextTo 42 = .ok (.ior, 1) := by decide +kernel
theorem dX0_nextTo_43 : decode cX0_nextTo 43 = .ok (.ireturn, 1) := by decide +kernel
end
section
theorem dX1_init_0 : decode cX1_init 0 = .ok (.aload_n 0, 1) := by decide +kernel
theorem dX1_init_1 : decode cX1_init 1 = .ok (.invokespecial 1, 3) := by decide +kernel
theorem dX1_init_4 : decode cX1_init 4 = .ok (.aload_n 0, 1) := by decide +kernel
theorem dX1_init_5 : decode cX1_init 5 = .ok (.bipush 61, 2) := by decide +kernel
theorem dX1_init_7 : decode cX1_init 7 = .ok (.newarray .int, 2) := by decide +kernel
theorem dX1_init_9 : decode cX1_init 9 = .ok (.putfield 9, 3) := by decide +kernel
theorem dX1_init_12 : decode cX1_init 12 = .ok (.aload_n 0, 1) := by decide +kernel
theorem dX1_init_13 : decode cX1_init 13 = .ok (.bipush 61, 2) := by decide +kernel
theorem dX1_init_15 : decode cX1_init 15 = .ok (.newarray .int, 2) := by decide +kernel
theorem dX1_init_17 : decode cX1_init 17 = .ok (.putfield 13, 3) := by decide +kernel
theorem dX1_init_20 : decode cX1_init 20 = .ok (.aload_n 0, 1) := by decide +kernel
theorem dX1_init_21 : decode cX1_init 21 = .ok (.bipush 61, 2) := by decide +kernel
theorem dX1_init_23 : decode cX1_init 23 = .ok (.newarray .int, 2) := by decide +kernel
theorem dX1_init_25 : decode cX1_init 25 = .ok (.putfield 16, 3) := by decide +kernel
theorem dX1_init_28 : decode cX1_init 28 = .ok (.aload_n 0, 1) := by decide +kernel
theorem dX1_init_29 : decode cX1_init 29 = .ok (.sipush 976, 3) := by decide +kernel
theorem dX1_init_32 : decode cX1_init 32 = .ok (.newarray .int, 2) := by decide +kernel
theorem dX1_init_34 : decode cX1_init 34 = .ok (.putfield 19, 3) := by decide +kernel
theorem dX1_init_37 : decode cX1_init 37 = .ok (.aload_n 0, 1) := by decide +kernel
theorem dX1_init_38 : decode cX1_init 38 = .ok (.iconst 0, 1) := by decide +kernel
theorem dX1_init_39 : decode cX1_init 39 = .ok (.putfield 22, 3) := by decide +kernel
theorem dX1_init_42 : decode cX1_init 42 = .ok (.return_, 1) := by decide +kernel
theorem dX1_literalOf_0 : decode cX1_literalOf 0 = .ok (.iload_n 0, 1) := by decide +kernel
theorem dX1_literalOf_1 : decode cX1_literalOf 1 = .ok (.iconst 4, 1) := by decide +kernel
theorem dX1_literalOf_2 : decode cX1_literalOf 2 = .ok (.ishl, 1) := by decide +kernel
theorem dX1_literalOf_3 : decode cX1_literalOf 3 = .ok (.iload_n 1, 1) := by decide +kernel
theorem dX1_literalOf_4 : decode cX1_literalOf 4 = .ok (.iconst 1, 1) := by decide +kernel
theorem dX1_literalOf_5 : decode cX1_literalOf 5 = .ok (.ishl, 1) := by decide +kernel
theorem dX1_literalOf_6 : decode cX1_literalOf 6 = .ok (.ior, 1) := by decide +kernel
theorem dX1_literalOf_7 : decode cX1_literalOf 7 = .ok (.iload_n 2, 1) := by decide +kernel
theorem dX1_literalOf_8 : decode cX1_literalOf 8 = .ok (.ifCond .eq 7, 3) := by decide +kernel
theorem dX1_literalOf_11 : decode cX1_literalOf 11 = .ok (.iconst 1, 1) := by decide +kernel
theorem dX1_literalOf_12 : decode cX1_literalOf 12 = .ok (.goto 4, 3) := by decide +kernel
theorem dX1_literalOf_15 : decode cX1_literalOf 15 = .ok (.iconst 0, 1) := by decide +kernel
theorem dX1_literalOf_16 : decode cX1_literalOf 16 = .ok (.ior, 1) := by decide +kernel
theorem dX1_literalOf_17 : decode cX1_literalOf 17 = .ok (.ireturn, 1) := by decide +kernel
theorem dX1_cellOf_0 : decode cX1_cellOf 0 = .ok (.iload_n 0, 1) := by decide +kernel
theorem dX1_cellOf_1 : decode cX1_cellOf 1 = .ok (.iconst 4, 1) := by decide +kernel
theorem dX1_cellOf_2 : decode cX1_cellOf 2 = .ok (.ishr, 1) := by decide +kernel
theorem dX1_cellOf_3 : decode cX1_cellOf 3 = .ok (.ireturn, 1) := by decide +kernel
theorem dX1_symbolOf_0 : decode cX1_symbolOf 0 = .ok (.iload_n 0, 1) := by decide +kernel
theorem dX1_symbolOf_1 : decode cX1_symbolOf 1 = .ok (.iconst 1, 1) := by decide +kernel
theorem dX1_symbolOf_2 : decode cX1_symbolOf 2 = .ok (.ishr, 1) := by decide +kernel
theorem dX1_symbolOf_3 : decode cX1_symbolOf 3 = .ok (.bipush 7, 2) := by decide +kernel
theorem dX1_symbolOf_5 : decode cX1_symbolOf 5 = .ok (.iand, 1) := by decide +kernel
theorem dX1_symbolOf_6 : decode cX1_symbolOf 6 = .ok (.ireturn, 1) := by decide +kernel
theorem dX1_saysIs_0 : decode cX1_saysIs 0 = .ok (.iload_n 0, 1) := by decide +kernel
theorem dX1_saysIs_1 : decode cX1_saysIs 1 = .ok (.iconst 1, 1) := by decide +kernel
theorem dX1_saysIs_2 : decode cX1_saysIs 2 = .ok (.iand, 1) := by decide +kernel
theorem dX1_saysIs_3 : decode cX1_saysIs 3 = .ok (.iconst 1, 1) := by decide +kernel
theorem dX1_saysIs_4 : decode cX1_saysIs 4 = .ok (.if_icmp .ne 7, 3) := by decide +kernel
theorem dX1_saysIs_7 : decode cX1_saysIs 7 = .ok (.iconst 1, 1) := by decide +kernel
theorem dX1_saysIs_8 : decode cX1_saysIs 8 = .ok (.goto 4, 3) := by decide +kernel
theorem dX1_saysIs_11 : decode cX1_saysIs 11 = .ok (.iconst 0, 1) := by decide +kernel
theorem dX1_saysIs_12 : decode cX1_saysIs 12 = .ok (.ireturn, 1) := by decide +kernel
theorem dX1_count_0 : decode cX1_count 0 = .ok (.aload_n 0, 1) := by decide +kernel
theorem dX1_count_1 : decode cX1_count 1 = .ok (.getfield 22, 3) := by decide +kernel
theorem dX1_count_4 : decode cX1_count 4 = .ok (.ireturn, 1) := by decide +kernel
theorem dX1_isFull_0 : decode cX1_isFull 0 = .ok (.aload_n 0, 1) := by decide +kernel
theorem dX1_isFull_1 : decode cX1_isFull 1 = .ok (.getfield 22, 3) := by decide +kernel
theorem dX1_isFull_4 : decode cX1_isFull 4 = .ok (.bipush 60, 2) := by decide +kernel
theorem dX1_isFull_6 : decode cX1_isFull 6 = .ok (.if_icmp .lt 7, 3) := by decide +kernel
theorem dX1_isFull_9 : decode cX1_isFull 9 = .ok (.iconst 1, 1) := by decide +kernel
theorem dX1_isFull_10 : decode cX1_isFull 10 = .ok (.goto 4, 3) := by decide +kernel
theorem dX1_isFull_13 : decode cX1_isFull 13 = .ok (.iconst 0, 1) := by decide +kernel
theorem dX1_isFull_14 : decode cX1_isFull 14 = .ok (.ireturn, 1) := by decide +kernel
theorem dX1_kindOf_0 : decode cX1_kindOf 0 = .ok (.aload_n 0, 1) := by decide +kernel
theorem dX1_kindOf_1 : decode cX1_kindOf 1 = .ok (.getfield 9, 3) := by decide +kernel
theorem dX1_kindOf_4 : decode cX1_kindOf 4 = .ok (.iload_n 1, 1) := by decide +kernel
theorem dX1_kindOf_5 : decode cX1_kindOf 5 = .ok (.iaload, 1) := by decide +kernel
theorem dX1_kindOf_6 : decode cX1_kindOf 6 = .ok (.ireturn, 1) := by decide +kernel
theorem dX1_numberOf_0 : decode cX1_numberOf 0 = .ok (.aload_n 0, 1) := by decide +kernel
theorem dX1_numberOf_1 : decode cX1_numberOf 1 = .ok (.getfield 13, 3) := by decide +kernel
theorem dX1_numberOf_4 : decode cX1_numberOf 4 = .ok (.iload_n 1, 1) := by decide +kernel
theorem dX1_numberOf_5 : decode cX1_numberOf 5 = .ok (.iaload, 1) := by decide +kernel
theorem dX1_numberOf_6 : decode cX1_numberOf 6 = .ok (.ireturn, 1) := by decide +kernel
theorem dX1_sizeOf_0 : decode cX1_sizeOf 0 = .ok (.aload_n 0, 1) := by decide +kernel
theorem dX1_sizeOf_1 : decode cX1_sizeOf 1 = .ok (.getfield 16, 3) := by decide +kernel
theorem dX1_sizeOf_4 : decode cX1_sizeOf 4 = .ok (.iload_n 1, 1) := by decide +kernel
theorem dX1_sizeOf_5 : decode cX1_sizeOf 5 = .ok (.iaload, 1) := by decide +kernel
theorem dX1_sizeOf_6 : decode cX1_sizeOf 6 = .ok (.ireturn, 1) := by decide +kernel
theorem dX1_literalAt_0 : decode cX1_literalAt 0 = .ok (.aload_n 0, 1) := by decide +kernel
theorem dX1_literalAt_1 : decode cX1_literalAt 1 = .ok (.getfield 19, 3) := by decide +kernel
theorem dX1_literalAt_4 : decode cX1_literalAt 4 = .ok (.bipush 16, 2) := by decide +kernel
theorem dX1_literalAt_6 : decode cX1_literalAt 6 = .ok (.iload_n 1, 1) := by decide +kernel
theorem dX1_literalAt_7 : decode cX1_literalAt 7 = .ok (.imul, 1) := by decide +kernel
theorem dX1_literalAt_8 : decode cX1_literalAt 8 = .ok (.iload_n 2, 1) := by decide +kernel
theorem dX1_literalAt_9 : decode cX1_literalAt 9 = .ok (.iadd, 1) := by decide +kernel
theorem dX1_literalAt_10 : decode cX1_literalAt 10 = .ok (.iaload, 1) := by decide +kernel
theorem dX1_literalAt_11 : decode cX1_literalAt 11 = .ok (.ireturn, 1) := by decide +kernel
theorem dX1_startDraft_0 : decode cX1_startDraft 0 = .ok (.aload_n 0, 1) := by decide +kernel
theorem dX1_startDraft_1 : decode cX1_startDraft 1 = .ok (.getfield 9, 3) := by decide +kernel
theorem dX1_startDraft_4 : decode cX1_startDraft 4 = .ok (.aload_n 0, 1) := by decide +kernel
theorem dX1_startDraft_5 : decode cX1_startDraft 5 = .ok (.getfield 22, 3) := by decide +kernel
theorem dX1_startDraft_8 : decode cX1_startDraft 8 = .ok (.iload_n 1, 1) := by decide +kernel
theorem dX1_startDraft_9 : decode cX1_startDraft 9 = .ok (.iastore, 1) := by decide +kernel
theorem dX1_startDraft_10 : decode cX1_startDraft 10 = .ok (.aload_n 0, 1) := by decide +kernel
theorem dX1_startDraft_11 : decode cX1_startDraft 11 = .ok (.getfield 13, 3) := by decide +kernel
theorem dX1_startDraft_14 : decode cX1_startDraft 14 = .ok (.aload_n 0, 1) := by decide +kernel
theorem dX1_startDraft_15 : decode cX1_startDraft 15 = .ok (.getfield 22, 3) := by decide +kernel
theorem dX1_startDraft_18 : decode cX1_startDraft 18 = .ok (.iload_n 2, 1) := by decide +kernel
theorem dX1_startDraft_19 : decode cX1_startDraft 19 = .ok (.iastore, 1) := by decide +kernel
theorem dX1_startDraft_20 : decode cX1_startDraft 20 = .ok (.aload_n 0, 1) := by decide +kernel
theorem dX1_startDraft_21 : decode cX1_startDraft 21 = .ok (.getfield 16, 3) := by decide +kernel
theorem dX1_startDraft_24 : decode cX1_startDraft 24 = .ok (.aload_n 0, 1) := by decide +kernel
theorem dX1_startDraft_25 : decode cX1_startDraft 25 = .ok (.getfield 22, 3) := by decide +kernel
theorem dX1_startDraft_28 : decode cX1_startDraft 28 = .ok (.iconst 0, 1) := by decide +kernel
theorem dX1_startDraft_29 : decode cX1_startDraft 29 = .ok (.iastore, 1) := by decide +kernel
theorem dX1_startDraft_30 : decode cX1_startDraft 30 = .ok (.return_, 1) := by decide +kernel
set_option maxRecDepth 20000 in
theorem ggX1_keepDraft_X1_isFull : GoodIn wsX1_keepDraft wsX1_isFull := goodIn_r _ [6, 1, 7, 8, 9, 10, 11] (by decide +kernel) (by decide +kernel)
set_option maxRecDepth 20000 in
theorem gX1_keepDraft_X1_isFull : GoodIn wsX1_keepDraft (wsV RX1 26 RX1 yX1_isFull wsX1_isFull) := goodIn_app (goodIn_of _ (by decide +kernel)) ggX1_keepDraft_X1_isFull
theorem dX1_keepDraft_0 : decode cX1_keepDraft 0 = .ok (.aload_n 0, 1) := by decide +kernel
theorem dX1_keepDraft_1 : decode cX1_keepDraft 1 = .ok (.invokevirtual 26, 3) := by decide +kernel
theorem dX1_keepDraft_4 : decode cX1_keepDraft 4 = .ok (.ifCond .eq 5, 3) := by decide +kernel
theorem dX1_keepDraft_7 : decode cX1_keepDraft 7 = .ok (.iconst 0, 1) := by decide +kernel
theorem dX1_keepDraft_8 : decode cX1_keepDraft 8 = .ok (.ireturn, 1) := by decide +kernel
theorem dX1_keepDraft_9 : decode cX1_keepDraft 9 = .ok (.aload_n 0, 1) := by decide +kernel
theorem dX1_keepDraft_10 : decode cX1_keepDraft 10 = .ok (.dup, 1) := by decide +kernel
theorem dX1_keepDraft_11 : decode cX1_keepDraft 11 = .ok (.getfield 22, 3) := by decide +kernel
theorem dX1_keepDraft_14 : decode cX1_keepDraft 14 = .ok (.iconst 1, 1) := by decide +kernel
theorem dX1_keepDraft_15 : decode cX1_keepDraft 15 = .ok (.iadd, 1) := by decide +kernel
theorem dX1_keepDraft_16 : decode cX1_keepDraft 16 = .ok (.putfield 22, 3) := by decide +kernel
theorem dX1_keepDraft_19 : decode cX1_keepDraft 19 = .ok (.iconst 1, 1) := by decide +kernel
theorem dX1_keepDraft_20 : decode cX1_keepDraft 20 = .ok (.ireturn, 1) := by decide +kernel
theorem dX1_cutTo_0 : decode cX1_cutTo 0 = .ok (.aload_n 0, 1) := by decide +kernel
theorem dX1_cutTo_1 : decode cX1_cutTo 1 = .ok (.iload_n 1, 1) := by decide +kernel
theorem dX1_cutTo_2 : decode cX1_cutTo 2 = .ok (.putfield 22, 3) := by decide +kernel
theorem dX1_cutTo_5 : decode cX1_cutTo 5 = .ok (.return_, 1) := by decide +kernel
theorem dX1_isFullOfLiterals_0 : decode cX1_isFullOfLiterals 0 = .ok (.aload_n 0, 1) := by decide +kernel
theorem dX1_isFullOfLiterals_1 : decode cX1_isFullOfLiterals 1 = .ok (.getfield 16, 3) := by decide +kernel
theorem dX1_isFullOfLiterals_4 : decode cX1_isFullOfLiterals 4 = .ok (.iload_n 1, 1) := by decide +kernel
theorem dX1_isFullOfLiterals_5 : decode cX1_isFullOfLiterals 5 = .ok (.iaload, 1) := by decide +kernel
theorem dX1_isFullOfLiterals_6 : decode cX1_isFullOfLiterals 6 = .ok (.bipush 16, 2) := by decide +kernel
theorem dX1_isFullOfLiterals_8 : decode cX1_isFullOfLiterals 8 = .ok (.if_icmp .lt 7, 3) := by decide +kernel
theorem dX1_isFullOfLiterals_11 : decode cX1_isFullOfLiterals 11 = .ok (.iconst 1, 1) := by decide +kernel
theorem dX1_isFullOfLiterals_12 : decode cX1_isFullOfLiterals 12 = .ok (.goto 4, 3) := by decide +kernel
theorem dX1_isFullOfLiterals_15 : decode cX1_isFullOfLiterals 15 = .ok (.iconst 0, 1) := by decide +kernel
theorem dX1_isFullOfLiterals_16 : decode cX1_isFullOfLiterals 16 = .ok (.ireturn, 1) := by decide +kernel
set_option maxRecDepth 20000 in
theorem ggX1_addLiteral_X1_isFullOfLiterals : GoodIn wsX1_addLiteral wsX1_isFullOfLiterals := goodIn_r _ [7, 1, 12, 13, 14, 15, 16] (by decide +kernel) (by decide +kernel)
set_option maxRecDepth 20000 in
theorem gX1_addLiteral_X1_isFullOfLiterals : GoodIn wsX1_addLiteral (wsV RX1 30 RX1 yX1_isFullOfLiterals wsX1_isFullOfLiterals) := goodIn_app (goodIn_of _ (by decide +kernel)) ggX1_addLiteral_X1_isFullOfLiterals
set_option maxRecDepth 20000 in
theorem ggX1_addLiteral_X1_literalAt : GoodIn wsX1_addLiteral wsX1_literalAt := goodIn_r _ [11, 2, 12, 13, 14, 15, 16] (by decide +kernel) (by decide +kernel)
set_option maxRecDepth 20000 in
theorem gX1_addLiteral_X1_literalAt : GoodIn wsX1_addLiteral (wsV RX1 34 RX1 yX1_literalAt wsX1_literalAt) := goodIn_app (goodIn_of _ (by decide +kernel)) ggX1_addLiteral_X1_literalAt
theorem dX1_addLiteral_0 : decode cX1_addLiteral 0 = .ok (.aload_n 0, 1) := by decide +kernel
theorem dX1_addLiteral_1 : decode cX1_addLiteral 1 = .ok (.iload_n 1, 1) := by decide +kernel
theorem dX1_addLiteral_2 : decode cX1_addLiteral 2 = .ok (.invokevirtual 30, 3) := by decide +kernel
theorem dX1_addLiteral_5 : decode cX1_addLiteral 5 = .ok (.ifCond .eq 5, 3) := by decide +kernel
theorem dX1_addLiteral_8 : decode cX1_addLiteral 8 = .ok (.iconst 0, 1) := by decide +kernel
theorem dX1_addLiteral_9 : decode cX1_addLiteral 9 = .ok (.ireturn, 1) := by decide +kernel
theorem dX1_addLiteral_10 : decode cX1_addLiteral 10 = .ok (.aload_n 0, 1) := by decide +kernel
theorem dX1_addLiteral_11 : decode cX1_addLiteral 11 = .ok (.getfield 16, 3) := by decide +kernel
theorem dX1_addLiteral_14 : decode cX1_addLiteral 14 = .ok (.iload_n 1, 1) := by decide +kernel
theorem dX1_addLiteral_15 : decode cX1_addLiteral 15 = .ok (.iaload, 1) := by decide +kernel
theorem dX1_addLiteral_16 : decode cX1_addLiteral 16 = .ok (.istore_n 3, 1) := by decide +kernel
theorem dX1_addLiteral_17 : decode cX1_addLiteral 17 = .ok (.iconst 0, 1) := by decide +kernel
theorem dX1_addLiteral_18 : decode cX1_addLiteral 18 = .ok (.istore 4, 2) := by decide +kernel
theorem dX1_addLiteral_20 : decode cX1_addLiteral 20 = .ok (.iload 4, 2) := by decide +kernel
theorem dX1_addLiteral_22 : decode cX1_addLiteral 22 = .ok (.iload_n 3, 1) := by decide +kernel
theorem dX1_addLiteral_23 : decode cX1_addLiteral 23 = .ok (.if_icmp .ge 22, 3) := by decide +kernel
theorem dX1_addLiteral_26 : decode cX1_addLiteral 26 = .ok (.aload_n 0, 1) := by decide +kernel
theorem dX1_addLiteral_27 : decode cX1_addLiteral 27 = .ok (.iload_n 1, 1) := by decide +kernel
theorem dX1_addLiteral_28 : decode cX1_addLiteral 28 = .ok (.iload 4, 2) := by decide +kernel
theorem dX1_addLiteral_30 : decode cX1_addLiteral 30 = .ok (.invokevirtual 34, 3) := by decide +kernel
theorem dX1_addLiteral_33 : decode cX1_addLiteral 33 = .ok (.iload_n 2, 1) := by decide +kernel
theorem dX1_addLiteral_34 : decode cX1_addLiteral 34 = .ok (.if_icmp .ne 5, 3) := by decide +kernel
theorem dX1_addLiteral_37 : decode cX1_addLiteral 37 = .ok (.iconst 0, 1) := by decide +kernel
theorem dX1_addLiteral_38 : decode cX1_addLiteral 38 = .ok (.ireturn, 1) := by decide +kernel
theorem dX1_addLiteral_39 : decode cX1_addLiteral 39 = .ok (.iinc 4 1, 3) := by decide +kernel
theorem dX1_addLiteral_42 : decode cX1_addLiteral 42 = .ok (.goto (-22), 3) := by decide +kernel
theorem dX1_addLiteral_45 : decode cX1_addLiteral 45 = .ok (.aload_n 0, 1) := by decide +kernel
theorem dX1_addLiteral_46 : decode cX1_addLiteral 46 = .ok (.getfield 19, 3) := by decide +kernel
theorem dX1_addLiteral_49 : decode cX1_addLiteral 49 = .ok (.bipush 16, 2) := by decide +kernel
theorem dX1_addLiteral_51 : decode cX1_addLiteral 51 = .ok (.iload_n 1, 1) := by decide +kernel
theorem dX1_addLiteral_52 : decode cX1_addLiteral 52 = .ok (.imul, 1) := by decide +kernel
theorem dX1_addLiteral_53 : decode cX1_addLiteral 53 = .ok (.iload_n 3, 1) := by decide +kernel
theorem dX1_addLiteral_54 : decode cX1_addLiteral 54 = .ok (.iadd, 1) := by decide +kernel
theorem dX1_addLiteral_55 : decode cX1_addLiteral 55 = .ok (.iload_n 2, 1) := by decide +kernel
theorem dX1_addLiteral_56 : decode cX1_addLiteral 56 = .ok (.iastore, 1) := by decide +kernel
theorem dX1_addLiteral_57 : decode cX1_addLiteral 57 = .ok (.aload_n 0, 1) := by decide +kernel
theorem dX1_addLiteral_58 : decode cX1_addLiteral 58 = .ok (.getfield 16, 3) := by decide +kernel
theorem dX1_addLiteral_61 : decode cX1_addLiteral 61 = .ok (.iload_n 1, 1) := by decide +kernel
theorem dX1_addLiteral_62 : decode cX1_addLiteral 62 = .ok (.iload_n 3, 1) := by decide +kernel
theorem dX1_addLiteral_63 : decode cX1_addLiteral 63 = .ok (.iconst 1, 1) := by decide +kernel
theorem dX1_addLiteral_64 : decode cX1_addLiteral 64 = .ok (.iadd, 1) := by decide +kernel
theorem dX1_addLiteral_65 : decode cX1_addLiteral 65 = .ok (.iastore, 1) := by decide +kernel
theorem dX1_addLiteral_66 : decode cX1_addLiteral 66 = .ok (.iconst 1, 1) := by decide +kernel
theorem dX1_addLiteral_67 : decode cX1_addLiteral 67 = .ok (.ireturn, 1) := by decide +kernel
end
section
theorem dX2_init_0 : decode cX2_init 0 = .ok (.aload_n 0, 1) := by decide +kernel
theorem dX2_init_1 : decode cX2_init 1 = .ok (.invokespecial 3, 3) := by decide +kernel
theorem dX2_init_4 : decode cX2_init 4 = .ok (.aload_n 0, 1) := by decide +kernel
theorem dX2_init_5 : decode cX2_init 5 = .ok (.sipush 300, 3) := by decide +kernel
theorem dX2_init_8 : decode cX2_init 8 = .ok (.newarray .int, 2) := by decide +kernel
theorem dX2_init_10 : decode cX2_init 10 = .ok (.putfield 11, 3) := by decide +kernel
theorem dX2_init_13 : decode cX2_init 13 = .ok (.aload_n 0, 1) := by decide +kernel
theorem dX2_init_14 : decode cX2_init 14 = .ok (.iconst 0, 1) := by decide +kernel
theorem dX2_init_15 : decode cX2_init 15 = .ok (.putfield 15, 3) := by decide +kernel
theorem dX2_init_18 : decode cX2_init 18 = .ok (.aload_n 0, 1) := by decide +kernel
theorem dX2_init_19 : decode cX2_init 19 = .ok (.iconst 0, 1) := by decide +kernel
theorem dX2_init_20 : decode cX2_init 20 = .ok (.putfield 19, 3) := by decide +kernel
theorem dX2_init_23 : decode cX2_init 23 = .ok (.aload_n 0, 1) := by decide +kernel
theorem dX2_init_24 : decode cX2_init 24 = .ok (.aload_n 1, 1) := by decide +kernel
theorem dX2_init_25 : decode cX2_init 25 = .ok (.putfield 22, 3) := by decide +kernel
theorem dX2_init_28 : decode cX2_init 28 = .ok (.aload_n 0, 1) := by decide +kernel
theorem dX2_init_29 : decode cX2_init 29 = .ok (.aload_n 2, 1) := by decide +kernel
theorem dX2_init_30 : decode cX2_init 30 = .ok (.putfield 26, 3) := by decide +kernel
theorem dX2_init_33 : decode cX2_init 33 = .ok (.return_, 1) := by decide +kernel
theorem dX2_append_0 : decode cX2_append 0 = .ok (.iload_n 1, 1) := by decide +kernel
theorem dX2_append_1 : decode cX2_append 1 = .ok (.ifCond .lt 20, 3) := by decide +kernel
theorem dX2_append_4 : decode cX2_append 4 = .ok (.iload_n 1, 1) := by decide +kernel
theorem dX2_append_5 : decode cX2_append 5 = .ok (.sipush 255, 3) := by decide +kernel
theorem dX2_append_8 : decode cX2_append 8 = .ok (.if_icmp .gt 13, 3) := by decide +kernel
theorem dX2_append_11 : decode cX2_append 11 = .ok (.aload_n 0, 1) := by decide +kernel
theorem dX2_append_12 : decode cX2_append 12 = .ok (.getfield 15, 3) := by decide +kernel
theorem dX2_append_15 : decode cX2_append 15 = .ok (.sipush 300, 3) := by decide +kernel
theorem dX2_append_18 : decode cX2_append 18 = .ok (.if_icmp .lt 5, 3) := by decide +kernel
theorem dX2_append_21 : decode cX2_append 21 = .ok (.iconst 0, 1) := by decide +kernel
theorem dX2_append_22 : decode cX2_append 22 = .ok (.ireturn, 1) := by decide +kernel
theorem dX2_append_23 : decode cX2_append 23 = .ok (.aload_n 0, 1) := by decide +kernel
theorem dX2_append_24 : decode cX2_append 24 = .ok (.getfield 11, 3) := by decide +kernel
theorem dX2_append_27 : decode cX2_append 27 = .ok (.aload_n 0, 1) := by decide +kernel
theorem dX2_append_28 : decode cX2_append 28 = .ok (.getfield 15, 3) := by decide +kernel
theorem dX2_append_31 : decode cX2_append 31 = .ok (.iload_n 1, 1) := by decide +kernel
theorem dX2_append_32 : decode cX2_append 32 = .ok (.iastore, 1) := by decide +kernel
theorem dX2_append_33 : decode cX2_append 33 = .ok (.aload_n 0, 1) := by decide +kernel
theorem dX2_append_34 : decode cX2_append 34 = .ok (.dup, 1) := by decide +kernel
theorem dX2_append_35 : decode cX2_append 35 = .ok (.getfield 15, 3) := by decide +kernel
theorem dX2_append_38 : decode cX2_append 38 = .ok (.iconst 1, 1) := by decide +kernel
theorem dX2_append_39 : decode cX2_append 39 = .ok (.iadd, 1) := by decide +kernel
theorem dX2_append_40 : decode cX2_append 40 = .ok (.putfield 15, 3) := by decide +kernel
theorem dX2_append_43 : decode cX2_append 43 = .ok (.iconst 1, 1) := by decide +kernel
theorem dX2_append_44 : decode cX2_append 44 = .ok (.ireturn, 1) := by decide +kernel
set_option maxRecDepth 20000 in
theorem ggX2_readAll_X1_count : GoodIn wsX2_readAll wsX1_count := goodIn_r _ [8, 9, 93, 94, 95, 96, 97] (by decide +kernel) (by decide +kernel)
set_option maxRecDepth 20000 in
theorem gX2_readAll_X1_count : GoodIn wsX2_readAll (wsV RX2 30 RX1 yX1_count wsX1_count) := goodIn_app (goodIn_of _ (by decide +kernel)) ggX2_readAll_X1_count
set_option maxRecDepth 20000 in
theorem ggX2_readAll_X2_readLine : GoodIn wsX2_readAll wsX2_readLine := goodIn_r _ [14, 1, 2, 15, 16, 17, 13, 18, 19, 20, 21, 22, 3, 23, 24, 25, 26, 7, 27, 28, 9, 29, 30, 31, 32, 33, 34, 35, 36, 37, 38, 4, 5, 6, 8, 39, 40, 41, 42, 43, 44, 45, 46, 47, 48, 49, 50, 51, 52, 53, 54, 55, 56, 57, 58, 59, 60, 61, 62, 63, 64, 65, 66, 67, 68, 69, 70, 71, 72, 73, 74, 75, 76, 77, 78, 79, 80, 81, 82, 83, 88, 89, 90, 91, 92, 93, 94, 95, 96, 97, 98, 99, 100, 101, 102] (by decide +kernel) (by decide +kernel)
set_option maxRecDepth 20000 in
theorem gX2_readAll_X2_readLine : GoodIn wsX2_readAll (wsV RX2 35 RX2 yX2_readLine wsX2_readLine) := goodIn_app (goodIn_of _ (by decide +kernel)) ggX2_readAll_X2_readLine
set_option maxRecDepth 20000 in
theorem ggX2_readAll_X1_cutTo : GoodIn wsX2_readAll wsX1_cutTo := goodIn_r _ [87, 9, 93, 94, 95, 96, 97] (by decide +kernel) (by decide +kernel)
set_option maxRecDepth 20000 in
theorem gX2_readAll_X1_cutTo : GoodIn wsX2_readAll (wsV RX2 39 RX1 yX1_cutTo wsX1_cutTo) := goodIn_app (goodIn_of _ (by decide +kernel)) ggX2_readAll_X1_cutTo
theorem dX2_readAll_0 : decode cX2_readAll 0 = .ok (.aload_n 0, 1) := by decide +kernel
theorem dX2_readAll_1 : decode cX2_readAll 1 = .ok (.getfield 26, 3) := by decide +kernel
theorem dX2_readAll_4 : decode cX2_readAll 4 = .ok (.invokevirtual 30, 3) := by decide +kernel
theorem dX2_readAll_7 : decode cX2_readAll 7 = .ok (.istore_n 1, 1) := by decide +kernel
theorem dX2_readAll_8 : decode cX2_readAll 8 = .ok (.iconst 1, 1) := by decide +kernel
theorem dX2_readAll_9 : decode cX2_readAll 9 = .ok (.istore_n 2, 1) := by decide +kernel
theorem dX2_readAll_10 : decode cX2_readAll 10 = .ok (.aload_n 0, 1) := by decide +kernel
theorem dX2_readAll_11 : decode cX2_readAll 11 = .ok (.iconst 0, 1) := by decide +kernel
theorem dX2_readAll_12 : decode cX2_readAll 12 = .ok (.putfield 19, 3) := by decide +kernel
theorem dX2_readAll_15 : decode cX2_readAll 15 = .ok (.iconst 0, 1) := by decide +kernel
theorem dX2_readAll_16 : decode cX2_readAll 16 = .ok (.istore_n 3, 1) := by decide +kernel
theorem dX2_readAll_17 : decode cX2_readAll 17 = .ok (.iload_n 3, 1) := by decide +kernel
theorem dX2_readAll_18 : decode cX2_readAll 18 = .ok (.sipush 300, 3) := by decide +kernel
theorem dX2_readAll_21 : decode cX2_readAll 21 = .ok (.if_icmp .ge 29, 3) := by decide +kernel
theorem dX2_readAll_24 : decode cX2_readAll 24 = .ok (.iload_n 2, 1) := by decide +kernel
theorem dX2_readAll_25 : decode cX2_readAll 25 = .ok (.ifCond .eq 25, 3) := by decide +kernel
theorem dX2_readAll_28 : decode cX2_readAll 28 = .ok (.aload_n 0, 1) := by decide +kernel
theorem dX2_readAll_29 : decode cX2_readAll 29 = .ok (.getfield 19, 3) := by decide +kernel
theorem dX2_readAll_32 : decode cX2_readAll 32 = .ok (.aload_n 0, 1) := by decide +kernel
theorem dX2_readAll_33 : decode cX2_readAll 33 = .ok (.getfield 15, 3) := by decide +kernel
theorem dX2_readAll_36 : decode cX2_readAll 36 = .ok (.if_icmp .ge 14, 3) := by decide +kernel
theorem dX2_readAll_39 : decode cX2_readAll 39 = .ok (.aload_n 0, 1) := by decide +kernel
theorem dX2_readAll_40 : decode cX2_readAll 40 = .ok (.invokevirtual 35, 3) := by decide +kernel
theorem dX2_readAll_43 : decode cX2_readAll 43 = .ok (.istore_n 2, 1) := by decide +kernel
theorem dX2_readAll_44 : decode cX2_readAll 44 = .ok (.iinc 3 1, 3) := by decide +kernel
theorem dX2_readAll_47 : decode cX2_readAll 47 = .ok (.goto (-30), 3) := by decide +kernel
theorem dX2_readAll_50 : decode cX2_readAll 50 = .ok (.aload_n 0, 1) := by decide +kernel
theorem dX2_readAll_51 : decode cX2_readAll 51 = .ok (.iconst 0, 1) := by decide +kernel
theorem dX2_readAll_52 : decode cX2_readAll 52 = .ok (.putfield 15, 3) := by decide +kernel
theorem dX2_readAll_55 : decode cX2_readAll 55 = .ok (.iload_n 2, 1) := by decide +kernel
theorem dX2_readAll_56 : decode cX2_readAll 56 = .ok (.ifCond .ne 18, 3) := by decide +kernel
theorem dX2_readAll_59 : decode cX2_readAll 59 = .ok (.aload_n 0, 1) := by decide +kernel
theorem dX2_readAll_60 : decode cX2_readAll 60 = .ok (.getfield 26, 3) := by decide +kernel
theorem dX2_readAll_63 : decode cX2_readAll 63 = .ok (.iload_n 1, 1) := by decide +kernel
theorem dX2_readAll_64 : decode cX2_readAll 64 = .ok (.invokevirtual 39, 3) := by decide +kernel
theorem dX2_readAll_67 : decode cX2_readAll 67 = .ok (.iconst (-1), 1) := by decide +kernel
theorem dX2_readAll_68 : decode cX2_readAll 68 = .ok (.aload_n 0, 1) := by decide +kernel
theorem dX2_readAll_69 : decode cX2_readAll 69 = .ok (.getfield 19, 3) := by decide +kernel
theorem dX2_readAll_72 : decode cX2_readAll 72 = .ok (.isub, 1) := by decide +kernel
theorem dX2_readAll_73 : decode cX2_readAll 73 = .ok (.ireturn, 1) := by decide +kernel
theorem dX2_readAll_74 : decode cX2_readAll 74 = .ok (.aload_n 0, 1) := by decide +kernel
theorem dX2_readAll_75 : decode cX2_readAll 75 = .ok (.getfield 26, 3) := by decide +kernel
theorem dX2_readAll_78 : decode cX2_readAll 78 = .ok (.invokevirtual 30, 3) := by decide +kernel
theorem dX2_readAll_81 : decode cX2_readAll 81 = .ok (.iload_n 1, 1) := by decide +kernel
theorem dX2_readAll_82 : decode cX2_readAll 82 = .ok (.isub, 1) := by decide +kernel
theorem dX2_readAll_83 : decode cX2_readAll 83 = .ok (.ireturn, 1) := by decide +kernel
set_option maxRecDepth 20000 in
theorem ggX2_readLine_X2_readHead : GoodIn wsX2_readLine wsX2_readHead := goodIn_r _ [7, 1, 2, 8, 9, 10, 6, 11, 12, 13, 14, 15, 16, 17, 18, 19, 20, 21, 22, 23, 24, 25, 26, 27, 28, 29, 30, 80, 81, 82, 83, 84, 85, 86, 87, 88, 89] (by decide +kernel) (by decide +kernel)
set_option maxRecDepth 20000 in
theorem gX2_readLine_X2_readHead : GoodIn wsX2_readLine (wsV RX2 43 RX2 yX2_readHead wsX2_readHead) := goodIn_app (goodIn_of _ (by decide +kernel)) ggX2_readLine_X2_readHead
set_option maxRecDepth 20000 in
theorem ggX2_readLine_X1_count : GoodIn wsX2_readLine wsX1_count := goodIn_r _ [34, 20, 85, 86, 87, 88, 89] (by decide +kernel) (by decide +kernel)
set_option maxRecDepth 20000 in
theorem gX2_readLine_X1_count : GoodIn wsX2_readLine (wsV RX2 30 RX1 yX1_count wsX1_count) := goodIn_app (goodIn_of _ (by decide +kernel)) ggX2_readLine_X1_count
set_option maxRecDepth 20000 in
theorem ggX2_readLine_X2_isHere : GoodIn wsX2_readLine wsX2_isHere := goodIn_r _ [11, 2, 12, 13, 80, 81, 82, 83, 84] (by decide +kernel) (by decide +kernel)
set_option maxRecDepth 20000 in
theorem gX2_readLine_X2_isHere : GoodIn wsX2_readLine (wsV RX2 46 RX2 yX2_isHere wsX2_isHere) := goodIn_app (goodIn_of _ (by decide +kernel)) ggX2_readLine_X2_isHere
set_option maxRecDepth 20000 in
theorem ggX2_readLine_X1_isFullOfLiterals : GoodIn wsX2_readLine wsX1_isFullOfLiterals := goodIn_r _ [38, 22, 85, 86, 87, 88, 89] (by decide +kernel) (by decide +kernel)
set_option maxRecDepth 20000 in
theorem gX2_readLine_X1_isFullOfLiterals : GoodIn wsX2_readLine (wsV RX2 50 RX1 yX1_isFullOfLiterals wsX1_isFullOfLiterals) := goodIn_app (goodIn_of _ (by decide +kernel)) ggX2_readLine_X1_isFullOfLiterals
set_option maxRecDepth 20000 in
theorem ggX2_readLine_X2_readLiteral : GoodIn wsX2_readLine wsX2_readLiteral := goodIn_r _ [42, 2, 43, 1, 8, 9, 10, 6, 11, 12, 13, 44, 45, 46, 47, 48, 49, 50, 51, 52, 53, 23, 24, 25, 26, 27, 28, 29, 30, 54, 55, 56, 57, 58, 59, 60, 17, 61, 62, 63, 64, 65, 22, 66, 67, 36, 37, 38, 68, 69, 70, 71, 80, 81, 82, 83, 84, 90, 91, 92, 93, 94, 85, 86, 87, 88, 89] (by decide +kernel) (by decide +kernel)
set_option maxRecDepth 20000 in
theorem gX2_readLine_X2_readLiteral : GoodIn wsX2_readLine (wsV RX2 54 RX2 yX2_readLiteral wsX2_readLiteral) := goodIn_app (goodIn_of _ (by decide +kernel)) ggX2_readLine_X2_readLiteral
set_option maxRecDepth 20000 in
theorem ggX2_readLine_X1_keepDraft : GoodIn wsX2_readLine wsX1_keepDraft := goodIn_r _ [75, 20, 76, 77, 78, 17, 79, 85, 86, 87, 88, 89] (by decide +kernel) (by decide +kernel)
set_option maxRecDepth 20000 in
theorem gX2_readLine_X1_keepDraft : GoodIn wsX2_readLine (wsV RX2 57 RX1 yX1_keepDraft wsX1_keepDraft) := goodIn_app (goodIn_of _ (by decide +kernel)) ggX2_readLine_X1_keepDraft
theorem dX2_readLine_0 : decode cX2_readLine 0 = .ok (.aload_n 0, 1) := by decide +kernel
theorem dX2_readLine_1 : decode cX2_readLine 1 = .ok (.invokevirtual 43, 3) := by decide +kernel
theorem dX2_readLine_4 : decode cX2_readLine 4 = .ok (.ifCond .ne 5, 3) := by decide +kernel
theorem dX2_readLine_7 : decode cX2_readLine 7 = .ok (.iconst 0, 1) := by decide +kernel
theorem dX2_readLine_8 : decode cX2_readLine 8 = .ok (.ireturn, 1) := by decide +kernel
theorem dX2_readLine_9 : decode cX2_readLine 9 = .ok (.aload_n 0, 1) := by decide +kernel
theorem dX2_readLine_10 : decode cX2_readLine 10 = .ok (.getfield 26, 3) := by decide +kernel
theorem dX2_readLine_13 : decode cX2_readLine 13 = .ok (.invokevirtual 30, 3) := by decide +kernel
theorem dX2_readLine_16 : decode cX2_readLine 16 = .ok (.istore_n 1, 1) := by decide +kernel
theorem dX2_readLine_17 : decode cX2_readLine 17 = .ok (.iconst 0, 1) := by decide +kernel
theorem dX2_readLine_18 : decode cX2_readLine 18 = .ok (.istore_n 2, 1) := by decide +kernel
theorem dX2_readLine_19 : decode cX2_readLine 19 = .ok (.iload_n 2, 1) := by decide +kernel
theorem dX2_readLine_20 : decode cX2_readLine 20 = .ok (.sipush 300, 3) := by decide +kernel
theorem dX2_readLine_23 : decode cX2_readLine 23 = .ok (.if_icmp .ge 39, 3) := by decide +kernel
theorem dX2_readLine_26 : decode cX2_readLine 26 = .ok (.aload_n 0, 1) := by decide +kernel
theorem dX2_readLine_27 : decode cX2_readLine 27 = .ok (.bipush 32, 2) := by decide +kernel
theorem dX2_readLine_29 : decode cX2_readLine 29 = .ok (.invokevirtual 46, 3) := by decide +kernel
theorem dX2_readLine_32 : decode cX2_readLine 32 = .ok (.ifCond .eq 30, 3) := by decide +kernel
theorem dX2_readLine_35 : decode cX2_readLine 35 = .ok (.aload_n 0, 1) := by decide +kernel
theorem dX2_readLine_36 : decode cX2_readLine 36 = .ok (.getfield 26, 3) := by decide +kernel
theorem dX2_readLine_39 : decode cX2_readLine 39 = .ok (.iload_n 1, 1) := by decide +kernel
theorem dX2_readLine_40 : decode cX2_readLine 40 = .ok (.invokevirtual 50, 3) := by decide +kernel
theorem dX2_readLine_43 : decode cX2_readLine 43 = .ok (.ifCond .ne 11, 3) := by decide +kernel
theorem dX2_readLine_46 : decode cX2_readLine 46 = .ok (.aload_n 0, 1) := by decide +kernel
theorem dX2_readLine_47 : decode cX2_readLine 47 = .ok (.iload_n 1, 1) := by decide +kernel
theorem dX2_readLine_48 : decode cX2_readLine 48 = .ok (.invokevirtual 54, 3) := by decide +kernel
theorem dX2_readLine_51 : decode cX2_readLine 51 = .ok (.ifCond .ne 5, 3) := by decide +kernel
theorem dX2_readLine_54 : decode cX2_readLine 54 = .ok (.iconst 0, 1) := by decide +kernel
theorem dX2_readLine_55 : decode cX2_readLine 55 = .ok (.ireturn, 1) := by decide +kernel
theorem dX2_readLine_56 : decode cX2_readLine 56 = .ok (.iinc 2 1, 3) := by decide +kernel
theorem dX2_readLine_59 : decode cX2_readLine 59 = .ok (.goto (-40), 3) := by decide +kernel
theorem dX2_readLine_62 : decode cX2_readLine 62 = .ok (.aload_n 0, 1) := by decide +kernel
theorem dX2_readLine_63 : decode cX2_readLine 63 = .ok (.bipush 59, 2) := by decide +kernel
theorem dX2_readLine_65 : decode cX2_readLine 65 = .ok (.invokevirtual 46, 3) := by decide +kernel
theorem dX2_readLine_68 : decode cX2_readLine 68 = .ok (.ifCond .eq 13, 3) := by decide +kernel
theorem dX2_readLine_71 : decode cX2_readLine 71 = .ok (.aload_n 0, 1) := by decide +kernel
theorem dX2_readLine_72 : decode cX2_readLine 72 = .ok (.getfield 26, 3) := by decide +kernel
theorem dX2_readLine_75 : decode cX2_readLine 75 = .ok (.invokevirtual 57, 3) := by decide +kernel
theorem dX2_readLine_78 : decode cX2_readLine 78 = .ok (.ifCond .ne 5, 3) := by decide +kernel
theorem dX2_readLine_81 : decode cX2_readLine 81 = .ok (.iconst 0, 1) := by decide +kernel
theorem dX2_readLine_82 : decode cX2_readLine 82 = .ok (.ireturn, 1) := by decide +kernel
theorem dX2_readLine_83 : decode cX2_readLine 83 = .ok (.aload_n 0, 1) := by decide +kernel
theorem dX2_readLine_84 : decode cX2_readLine 84 = .ok (.dup, 1) := by decide +kernel
theorem dX2_readLine_85 : decode cX2_readLine 85 = .ok (.getfield 19, 3) := by decide +kernel
theorem dX2_readLine_88 : decode cX2_readLine 88 = .ok (.iconst 1, 1) := by decide +kernel
theorem dX2_readLine_89 : decode cX2_readLine 89 = .ok (.iadd, 1) := by decide +kernel
theorem dX2_readLine_90 : decode cX2_readLine 90 = .ok (.putfield 19, 3) := by decide +kernel
theorem dX2_readLine_93 : decode cX2_readLine 93 = .ok (.iconst 1, 1) := by decide +kernel
theorem dX2_readLine_94 : decode cX2_readLine 94 = .ok (.ireturn, 1) := by decide +kernel
set_option maxRecDepth 20000 in
theorem ggX2_readHead_X2_isHere : GoodIn wsX2_readHead wsX2_isHere := goodIn_r _ [7, 2, 8, 9, 27, 28, 29, 30, 31] (by decide +kernel) (by decide +kernel)
set_option maxRecDepth 20000 in
theorem gX2_readHead_X2_isHere : GoodIn wsX2_readHead (wsV RX2 46 RX2 yX2_isHere wsX2_isHere) := goodIn_app (goodIn_of _ (by decide +kernel)) ggX2_readHead_X2_isHere
set_option maxRecDepth 20000 in
theorem ggX2_readHead_X1_startDraft : GoodIn wsX2_readHead wsX1_startDraft := goodIn_r _ [14, 15, 16, 17, 18, 32, 33, 34, 35, 36] (by decide +kernel) (by decide +kernel)
set_option maxRecDepth 20000 in
theorem gX2_readHead_X1_startDraft : GoodIn wsX2_readHead (wsV RX2 60 RX1 yX1_startDraft wsX1_startDraft) := goodIn_app (goodIn_of _ (by decide +kernel)) ggX2_readHead_X1_startDraft
set_option maxRecDepth 20000 in
theorem ggX2_readHead_X2_readNumber : GoodIn wsX2_readHead wsX2_readNumber := goodIn_r _ [22, 2, 23, 24, 25, 6, 26, 8, 9, 27, 28, 29, 30, 31] (by decide +kernel) (by decide +kernel)
set_option maxRecDepth 20000 in
theorem gX2_readHead_X2_readNumber : GoodIn wsX2_readHead (wsV RX2 64 RX2 yX2_readNumber wsX2_readNumber) := goodIn_app (goodIn_of _ (by decide +kernel)) ggX2_readHead_X2_readNumber
theorem dX2_readHead_0 : decode cX2_readHead 0 = .ok (.aload_n 0, 1) := by decide +kernel
theorem dX2_readHead_1 : decode cX2_readHead 1 = .ok (.bipush 117, 2) := by decide +kernel
theorem dX2_readHead_3 : decode cX2_readHead 3 = .ok (.invokevirtual 46, 3) := by decide +kernel
theorem dX2_readHead_6 : decode cX2_readHead 6 = .ok (.ifCond .ne 12, 3) := by decide +kernel
theorem dX2_readHead_9 : decode cX2_readHead 9 = .ok (.aload_n 0, 1) := by decide +kernel
theorem dX2_readHead_10 : decode cX2_readHead 10 = .ok (.bipush 98, 2) := by decide +kernel
theorem dX2_readHead_12 : decode cX2_readHead 12 = .ok (.invokevirtual 46, 3) := by decide +kernel
theorem dX2_readHead_15 : decode cX2_readHead 15 = .ok (.ifCond .eq 37, 3) := by decide +kernel
theorem dX2_readHead_18 : decode cX2_readHead 18 = .ok (.aload_n 0, 1) := by decide +kernel
theorem dX2_readHead_19 : decode cX2_readHead 19 = .ok (.getfield 26, 3) := by decide +kernel
theorem dX2_readHead_22 : decode cX2_readHead 22 = .ok (.aload_n 0, 1) := by decide +kernel
theorem dX2_readHead_23 : decode cX2_readHead 23 = .ok (.bipush 117, 2) := by decide +kernel
theorem dX2_readHead_25 : decode cX2_readHead 25 = .ok (.invokevirtual 46, 3) := by decide +kernel
theorem dX2_readHead_28 : decode cX2_readHead 28 = .ok (.ifCond .eq 7, 3) := by decide +kernel
theorem dX2_readHead_31 : decode cX2_readHead 31 = .ok (.iconst 1, 1) := by decide +kernel
theorem dX2_readHead_32 : decode cX2_readHead 32 = .ok (.goto 4, 3) := by decide +kernel
theorem dX2_readHead_35 : decode cX2_readHead 35 = .ok (.iconst 3, 1) := by decide +kernel
theorem dX2_readHead_36 : decode cX2_readHead 36 = .ok (.iconst 0, 1) := by decide +kernel
theorem dX2_readHead_37 : decode cX2_readHead 37 = .ok (.invokevirtual 60, 3) := by decide +kernel
theorem dX2_readHead_40 : decode cX2_readHead 40 = .ok (.aload_n 0, 1) := by decide +kernel
theorem dX2_readHead_41 : decode cX2_readHead 41 = .ok (.dup, 1) := by decide +kernel
theorem dX2_readHead_42 : decode cX2_readHead 42 = .ok (.getfield 19, 3) := by decide +kernel
theorem dX2_readHead_45 : decode cX2_readHead 45 = .ok (.iconst 1, 1) := by decide +kernel
theorem dX2_readHead_46 : decode cX2_readHead 46 = .ok (.iadd, 1) := by decide +kernel
theorem dX2_readHead_47 : decode cX2_readHead 47 = .ok (.putfield 19, 3) := by decide +kernel
theorem dX2_readHead_50 : decode cX2_readHead 50 = .ok (.iconst 1, 1) := by decide +kernel
theorem dX2_readHead_51 : decode cX2_readHead 51 = .ok (.ireturn, 1) := by decide +kernel
theorem dX2_readHead_52 : decode cX2_readHead 52 = .ok (.aload_n 0, 1) := by decide +kernel
theorem dX2_readHead_53 : decode cX2_readHead 53 = .ok (.bipush 114, 2) := by decide +kernel
theorem dX2_readHead_55 : decode cX2_readHead 55 = .ok (.invokevirtual 46, 3) := by decide +kernel
theorem dX2_readHead_58 : decode cX2_readHead 58 = .ok (.ifCond .ne 14, 3) := by decide +kernel
theorem dX2_readHead_61 : decode cX2_readHead 61 = .ok (.aload_n 0, 1) := by decide +kernel
theorem dX2_readHead_62 : decode cX2_readHead 62 = .ok (.bipush 115, 2) := by decide +kernel
theorem dX2_readHead_64 : decode cX2_readHead 64 = .ok (.invokevirtual 46, 3) := by decide +kernel
theorem dX2_readHead_67 : decode cX2_readHead 67 = .ok (.ifCond .ne 5, 3) := by decide +kernel
theorem dX2_readHead_70 : decode cX2_readHead 70 = .ok (.iconst 0, 1) := by decide +kernel
theorem dX2_readHead_71 : decode cX2_readHead 71 = .ok (.ireturn, 1) := by decide +kernel
theorem dX2_readHead_72 : decode cX2_readHead 72 = .ok (.aload_n 0, 1) := by decide +kernel
theorem dX2_readHead_73 : decode cX2_readHead 73 = .ok (.bipush 114, 2) := by decide +kernel
theorem dX2_readHead_75 : decode cX2_readHead 75 = .ok (.invokevirtual 46, 3) := by decide +kernel
theorem dX2_readHead_78 : decode cX2_readHead 78 = .ok (.ifCond .eq 7, 3) := by decide +kernel
theorem dX2_readHead_81 : decode cX2_readHead 81 = .ok (.iconst 0, 1) := by decide +kernel
theorem dX2_readHead_82 : decode cX2_readHead 82 = .ok (.goto 4, 3) := by decide +kernel
theorem dX2_readHead_85 : decode cX2_readHead 85 = .ok (.iconst 2, 1) := by decide +kernel
theorem dX2_readHead_86 : decode cX2_readHead 86 = .ok (.istore_n 1, 1) := by decide +kernel
theorem dX2_readHead_87 : decode cX2_readHead 87 = .ok (.aload_n 0, 1) := by decide +kernel
theorem dX2_readHead_88 : decode cX2_readHead 88 = .ok (.dup, 1) := by decide +kernel
theorem dX2_readHead_89 : decode cX2_readHead 89 = .ok (.getfield 19, 3) := by decide +kernel
theorem dX2_readHead_92 : decode cX2_readHead 92 = .ok (.iconst 1, 1) := by decide +kernel
theorem dX2_readHead_93 : decode cX2_readHead 93 = .ok (.iadd, 1) := by decide +kernel
theorem dX2_readHead_94 : decode cX2_readHead 94 = .ok (.putfield 19, 3) := by decide +kernel
theorem dX2_readHead_97 : decode cX2_readHead 97 = .ok (.aload_n 0, 1) := by decide +kernel
theorem dX2_readHead_98 : decode cX2_readHead 98 = .ok (.invokevirtual 64, 3) := by decide +kernel
theorem dX2_readHead_101 : decode cX2_readHead 101 = .ok (.istore_n 2, 1) := by decide +kernel
theorem dX2_readHead_102 : decode cX2_readHead 102 = .ok (.aload_n 0, 1) := by decide +kernel
theorem dX2_readHead_103 : decode cX2_readHead 103 = .ok (.getfield 26, 3) := by decide +kernel
theorem dX2_readHead_106 : decode cX2_readHead 106 = .ok (.iload_n 1, 1) := by decide +kernel
theorem dX2_readHead_107 : decode cX2_readHead 107 = .ok (.iload_n 2, 1) := by decide +kernel
theorem dX2_readHead_108 : decode cX2_readHead 108 = .ok (.invokevirtual 60, 3) := by decide +kernel
theorem dX2_readHead_111 : decode cX2_readHead 111 = .ok (.iload_n 2, 1) := by decide +kernel
theorem dX2_readHead_112 : decode cX2_readHead 112 = .ok (.iconst (-1), 1) := by decide +kernel
theorem dX2_readHead_113 : decode cX2_readHead 113 = .ok (.if_icmp .eq 7, 3) := by decide +kernel
theorem dX2_readHead_116 : decode cX2_readHead 116 = .ok (.iconst 1, 1) := by decide +kernel
theorem dX2_readHead_117 : decode cX2_readHead 117 = .ok (.goto 4, 3) := by decide +kernel
theorem dX2_readHead_120 : decode cX2_readHead 120 = .ok (.iconst 0, 1) := by decide +kernel
theorem dX2_readHead_121 : decode cX2_readHead 121 = .ok (.ireturn, 1) := by decide +kernel
set_option maxRecDepth 20000 in
theorem ggX2_readLiteral_X2_isHere : GoodIn wsX2_readLiteral wsX2_isHere := goodIn_r _ [8, 1, 9, 10, 52, 53, 54, 55, 56] (by decide +kernel) (by decide +kernel)
set_option maxRecDepth 20000 in
theorem gX2_readLiteral_X2_isHere : GoodIn wsX2_readLiteral (wsV RX2 46 RX2 yX2_isHere wsX2_isHere) := goodIn_app (goodIn_of _ (by decide +kernel)) ggX2_readLiteral_X2_isHere
set_option maxRecDepth 20000 in
theorem ggX2_readLiteral_X0_cells : GoodIn wsX2_readLiteral wsX0_cells := goodIn_r _ [15, 16, 57, 58, 59, 60, 61] (by decide +kernel) (by decide +kernel)
set_option maxRecDepth 20000 in
theorem gX2_readLiteral_X0_cells : GoodIn wsX2_readLiteral (wsV RX2 67 RX0 yX0_cells wsX0_cells) := goodIn_app (goodIn_of _ (by decide +kernel)) ggX2_readLiteral_X0_cells
set_option maxRecDepth 20000 in
theorem ggX2_readLiteral_X2_readNumberBelow : GoodIn wsX2_readLiteral wsX2_readNumberBelow := goodIn_r _ [20, 1, 21, 22, 23, 7, 24, 25, 26, 27, 28, 9, 10, 52, 53, 54, 55, 56] (by decide +kernel) (by decide +kernel)
set_option maxRecDepth 20000 in
theorem gX2_readLiteral_X2_readNumberBelow : GoodIn wsX2_readLiteral (wsV RX2 72 RX2 yX2_readNumberBelow wsX2_readNumberBelow) := goodIn_app (goodIn_of _ (by decide +kernel)) ggX2_readLiteral_X2_readNumberBelow
set_option maxRecDepth 20000 in
theorem ggX2_readLiteral_X0_symbols : GoodIn wsX2_readLiteral wsX0_symbols := goodIn_r _ [32, 33, 57, 58, 59, 60, 61] (by decide +kernel) (by decide +kernel)
set_option maxRecDepth 20000 in
theorem gX2_readLiteral_X0_symbols : GoodIn wsX2_readLiteral (wsV RX2 76 RX0 yX0_symbols wsX0_symbols) := goodIn_app (goodIn_of _ (by decide +kernel)) ggX2_readLiteral_X0_symbols
set_option maxRecDepth 20000 in
theorem ggX2_readLiteral_X1_literalOf : GoodIn wsX2_readLiteral wsX1_literalOf := goodIn_r _ [37] (by decide +kernel) (by decide +kernel)
set_option maxRecDepth 20000 in
theorem gX2_readLiteral_X1_literalOf : GoodIn wsX2_readLiteral (va_wsS RX2 79 yX1_literalOf wsX1_literalOf) := goodIn_app (goodIn_of _ (by decide +kernel)) ggX2_readLiteral_X1_literalOf
set_option maxRecDepth 20000 in
theorem ggX2_readLiteral_X1_addLiteral : GoodIn wsX2_readLiteral wsX1_addLiteral := goodIn_r _ [41, 42, 43, 44, 45, 46, 36, 47, 48, 49, 50, 51, 62, 63, 64, 65, 66] (by decide +kernel) (by decide +kernel)
set_option maxRecDepth 20000 in
theorem gX2_readLiteral_X1_addLiteral : GoodIn wsX2_readLiteral (wsV RX2 83 RX1 yX1_addLiteral wsX1_addLiteral) := goodIn_app (goodIn_of _ (by decide +kernel)) ggX2_readLiteral_X1_addLiteral
theorem dX2_readLiteral_0 : decode cX2_readLiteral 0 = .ok (.aload_n 0, 1) := by decide +kernel
theorem dX2_readLiteral_1 : decode cX2_readLiteral 1 = .ok (.dup, 1) := by decide +kernel
theorem dX2_readLiteral_2 : decode cX2_readLiteral 2 = .ok (.getfield 19, 3) := by decide +kernel
theorem dX2_readLiteral_5 : decode cX2_readLiteral 5 = .ok (.iconst 1, 1) := by decide +kernel
theorem dX2_readLiteral_6 : decode cX2_readLiteral 6 = .ok (.iadd, 1) := by decide +kernel
theorem dX2_readLiteral_7 : decode cX2_readLiteral 7 = .ok (.putfield 19, 3) := by decide +kernel
theorem dX2_readLiteral_10 : decode cX2_readLiteral 10 = .ok (.aload_n 0, 1) := by decide +kernel
theorem dX2_readLiteral_11 : decode cX2_readLiteral 11 = .ok (.bipush 43, 2) := by decide +kernel
theorem dX2_readLiteral_13 : decode cX2_readLiteral 13 = .ok (.invokevirtual 46, 3) := by decide +kernel
theorem dX2_readLiteral_16 : decode cX2_readLiteral 16 = .ok (.istore_n 2, 1) := by decide +kernel
theorem dX2_readLiteral_17 : decode cX2_readLiteral 17 = .ok (.iload_n 2, 1) := by decide +kernel
theorem dX2_readLiteral_18 : decode cX2_readLiteral 18 = .ok (.ifCond .ne 14, 3) := by decide +kernel
theorem dX2_readLiteral_21 : decode cX2_readLiteral 21 = .ok (.aload_n 0, 1) := by decide +kernel
theorem dX2_readLiteral_22 : decode cX2_readLiteral 22 = .ok (.bipush 45, 2) := by decide +kernel
theorem dX2_readLiteral_24 : decode cX2_readLiteral 24 = .ok (.invokevirtual 46, 3) := by decide +kernel
theorem dX2_readLiteral_27 : decode cX2_readLiteral 27 = .ok (.ifCond .ne 5, 3) := by decide +kernel
theorem dX2_readLiteral_30 : decode cX2_readLiteral 30 = .ok (.iconst 0, 1) := by decide +kernel
theorem dX2_readLiteral_31 : decode cX2_readLiteral 31 = .ok (.ireturn, 1) := by decide +kernel
theorem dX2_readLiteral_32 : decode cX2_readLiteral 32 = .ok (.aload_n 0, 1) := by decide +kernel
theorem dX2_readLiteral_33 : decode cX2_readLiteral 33 = .ok (.dup, 1) := by decide +kernel
theorem dX2_readLiteral_34 : decode cX2_readLiteral 34 = .ok (.getfield 19, 3) := by decide +kernel
theorem dX2_readLiteral_37 : decode cX2_readLiteral 37 = .ok (.iconst 1, 1) := by decide +kernel
theorem dX2_readLiteral_38 : decode cX2_readLiteral 38 = .ok (.iadd, 1) := by decide +kernel
theorem dX2_readLiteral_39 : decode cX2_readLiteral 39 = .ok (.putfield 19, 3) := by decide +kernel
theorem dX2_readLiteral_42 : decode cX2_readLiteral 42 = .ok (.aload_n 0, 1) := by decide +kernel
theorem dX2_readLiteral_43 : decode cX2_readLiteral 43 = .ok (.aload_n 0, 1) := by decide +kernel
theorem dX2_readLiteral_44 : decode cX2_readLiteral 44 = .ok (.getfield 22, 3) := by decide +kernel
theorem dX2_readLiteral_47 : decode cX2_readLiteral 47 = .ok (.invokevirtual 67, 3) := by decide +kernel
theorem dX2_readLiteral_50 : decode cX2_readLiteral 50 = .ok (.invokevirtual 72, 3) := by decide +kernel
theorem dX2_readLiteral_53 : decode cX2_readLiteral 53 = .ok (.istore_n 3, 1) := by decide +kernel
theorem dX2_readLiteral_54 : decode cX2_readLiteral 54 = .ok (.iload_n 3, 1) := by decide +kernel
theorem dX2_readLiteral_55 : decode cX2_readLiteral 55 = .ok (.iconst (-1), 1) := by decide +kernel
theorem dX2_readLiteral_56 : decode cX2_readLiteral 56 = .ok (.if_icmp .eq 12, 3) := by decide +kernel
theorem dX2_readLiteral_59 : decode cX2_readLiteral 59 = .ok (.aload_n 0, 1) := by decide +kernel
theorem dX2_readLiteral_60 : decode cX2_readLiteral 60 = .ok (.bipush 46, 2) := by decide +kernel
theorem dX2_readLiteral_62 : decode cX2_readLiteral 62 = .ok (.invokevirtual 46, 3) := by decide +kernel
theorem dX2_readLiteral_65 : decode cX2_readLiteral 65 = .ok (.ifCond .ne 5, 3) := by decide +kernel
theorem dX2_readLiteral_68 : decode cX2_readLiteral 68 = .ok (.iconst 0, 1) := by decide +kernel
theorem dX2_readLiteral_69 : decode cX2_readLiteral 69 = .ok (.ireturn, 1) := by decide +kernel
theorem dX2_readLiteral_70 : decode cX2_readLiteral 70 = .ok (.aload_n 0, 1) := by decide +kernel
theorem dX2_readLiteral_71 : decode cX2_readLiteral 71 = .ok (.dup, 1) := by decide +kernel
theorem dX2_readLiteral_72 : decode cX2_readLiteral 72 = .ok (.getfield 19, 3) := by decide +kernel
theorem dX2_readLiteral_75 : decode cX2_readLiteral 75 = .ok (.iconst 1, 1) := by decide +kernel
theorem dX2_readLiteral_76 : decode cX2_readLiteral 76 = .ok (.iadd, 1) := by decide +kernel
theorem dX2_readLiteral_77 : decode cX2_readLiteral 77 = .ok (.putfield 19, 3) := by decide +kernel
theorem dX2_readLiteral_80 : decode cX2_readLiteral 80 = .ok (.aload_n 0, 1) := by decide +kernel
theorem dX2_readLiteral_81 : decode cX2_readLiteral 81 = .ok (.aload_n 0, 1) := by decide +kernel
theorem dX2_readLiteral_82 : decode cX2_readLiteral 82 = .ok (.getfield 22, 3) := by decide +kernel
theorem dX2_readLiteral_85 : decode cX2_readLiteral 85 = .ok (.invokevirtual 76, 3) := by decide +kernel
theorem dX2_readLiteral_88 : decode cX2_readLiteral 88 = .ok (.invokevirtual 72, 3) := by decide +kernel
theorem dX2_readLiteral_91 : decode cX2_readLiteral 91 = .ok (.istore 4, 2) := by decide +kernel
theorem dX2_readLiteral_93 : decode cX2_readLiteral 93 = .ok (.iload 4, 2) := by decide +kernel
theorem dX2_readLiteral_95 : decode cX2_readLiteral 95 = .ok (.iconst (-1), 1) := by decide +kernel
theorem dX2_readLiteral_96 : decode cX2_readLiteral 96 = .ok (.if_icmp .ne 5, 3) := by decide +kernel
theorem dX2_readLiteral_99 : decode cX2_readLiteral 99 = .ok (.iconst 0, 1) := by decide +kernel
theorem dX2_readLiteral_100 : decode cX2_readLiteral 100 = .ok (.ireturn, 1) := by decide +kernel
theorem dX2_readLiteral_101 : decode cX2_readLiteral 101 = .ok (.aload_n 0, 1) := by decide +kernel
theorem dX2_readLiteral_102 : decode cX2_readLiteral 102 = .ok (.getfield 26, 3) := by decide +kernel
theorem dX2_readLiteral_105 : decode cX2_readLiteral 105 = .ok (.iload_n 1, 1) := by decide +kernel
theorem dX2_readLiteral_106 : decode cX2_readLiteral 106 = .ok (.iload_n 3, 1) := by decide +kernel
theorem dX2_readLiteral_107 : decode cX2_readLiteral 107 = .ok (.iload 4, 2) := by decide +kernel
theorem dX2_readLiteral_109 : decode cX2_readLiteral 109 = .ok (.iload_n 2, 1) := by decide +kernel
theorem dX2_readLiteral_110 : decode cX2_readLiteral 110 = .ok (.invokestatic 79, 3) := by decide +kernel
theorem dX2_readLiteral_113 : decode cX2_readLiteral 113 = .ok (.invokevirtual 83, 3) := by decide +kernel
theorem dX2_readLiteral_116 : decode cX2_readLiteral 116 = .ok (.ifCond .ne 15, 3) := by decide +kernel
theorem dX2_readLiteral_119 : decode cX2_readLiteral 119 = .ok (.aload_n 0, 1) := by decide +kernel
theorem dX2_readLiteral_120 : decode cX2_readLiteral 120 = .ok (.dup, 1) := by decide +kernel
theorem dX2_readLiteral_121 : decode cX2_readLiteral 121 = .ok (.getfield 19, 3) := by decide +kernel
theorem dX2_readLiteral_124 : decode cX2_readLiteral 124 = .ok (.iconst 1, 1) := by decide +kernel
theorem dX2_readLiteral_125 : decode cX2_readLiteral 125 = .ok (.isub, 1) := by decide +kernel
theorem dX2_readLiteral_126 : decode cX2_readLiteral 126 = .ok (.putfield 19, 3) := by decide +kernel
theorem dX2_readLiteral_129 : decode cX2_readLiteral 129 = .ok (.iconst 0, 1) := by decide +kernel
theorem dX2_readLiteral_130 : decode cX2_readLiteral 130 = .ok (.ireturn, 1) := by decide +kernel
theorem dX2_readLiteral_131 : decode cX2_readLiteral 131 = .ok (.iconst 1, 1) := by decide +kernel
theorem dX2_readLiteral_132 : decode cX2_readLiteral 132 = .ok (.ireturn, 1) := by decide +kernel
set_option maxRecDepth 20000 in
theorem ggX2_readNumberBelow_X2_readNumber : GoodIn wsX2_readNumberBelow wsX2_readNumber := goodIn_r _ [6, 1, 7, 8, 9, 5, 10, 11, 12, 13, 14, 15, 16, 17] (by decide +kernel) (by decide +kernel)
set_option maxRecDepth 20000 in
theorem gX2_readNumberBelow_X2_readNumber : GoodIn wsX2_readNumberBelow (wsV RX2 64 RX2 yX2_readNumber wsX2_readNumber) := goodIn_app (goodIn_of _ (by decide +kernel)) ggX2_readNumberBelow_X2_readNumber
theorem dX2_readNumberBelow_0 : decode cX2_readNumberBelow 0 = .ok (.aload_n 0, 1) := by decide +kernel
theorem dX2_readNumberBelow_1 : decode cX2_readNumberBelow 1 = .ok (.invokevirtual 64, 3) := by decide +kernel
theorem dX2_readNumberBelow_4 : decode cX2_readNumberBelow 4 = .ok (.istore_n 2, 1) := by decide +kernel
theorem dX2_readNumberBelow_5 : decode cX2_readNumberBelow 5 = .ok (.iload_n 2, 1) := by decide +kernel
theorem dX2_readNumberBelow_6 : decode cX2_readNumberBelow 6 = .ok (.iload_n 1, 1) := by decide +kernel
theorem dX2_readNumberBelow_7 : decode cX2_readNumberBelow 7 = .ok (.if_icmp .lt 15, 3) := by decide +kernel
theorem dX2_readNumberBelow_10 : decode cX2_readNumberBelow 10 = .ok (.aload_n 0, 1) := by decide +kernel
theorem dX2_readNumberBelow_11 : decode cX2_readNumberBelow 11 = .ok (.dup, 1) := by decide +kernel
theorem dX2_readNumberBelow_12 : decode cX2_readNumberBelow 12 = .ok (.getfield 19, 3) := by decide +kernel
theorem dX2_readNumberBelow_15 : decode cX2_readNumberBelow 15 = .ok (.iconst 1, 1) := by decide +kernel
theorem dX2_readNumberBelow_16 : decode cX2_readNumberBelow 16 = .ok (.isub, 1) := by decide +kernel
theorem dX2_readNumberBelow_17 : decode cX2_readNumberBelow 17 = .ok (.putfield 19, 3) := by decide +kernel
theorem dX2_readNumberBelow_20 : decode cX2_readNumberBelow 20 = .ok (.iconst (-1), 1) := by decide +kernel
theorem dX2_readNumberBelow_21 : decode cX2_readNumberBelow 21 = .ok (.ireturn, 1) := by decide +kernel
theorem dX2_readNumberBelow_22 : decode cX2_readNumberBelow 22 = .ok (.iload_n 2, 1) := by decide +kernel
theorem dX2_readNumberBelow_23 : decode cX2_readNumberBelow 23 = .ok (.ireturn, 1) := by decide +kernel
set_option maxRecDepth 20000 in
theorem ggX2_readNumber_X2_digitHere : GoodIn wsX2_readNumber wsX2_digitHere := goodIn_r _ [6, 1, 7, 8, 9, 10, 11, 12, 13] (by decide +kernel) (by decide +kernel)
set_option maxRecDepth 20000 in
theorem gX2_readNumber_X2_digitHere : GoodIn wsX2_readNumber (wsV RX2 87 RX2 yX2_digitHere wsX2_digitHere) := goodIn_app (goodIn_of _ (by decide +kernel)) ggX2_readNumber_X2_digitHere
theorem dX2_readNumber_0 : decode cX2_readNumber 0 = .ok (.aload_n 0, 1) := by decide +kernel
theorem dX2_readNumber_1 : decode cX2_readNumber 1 = .ok (.invokevirtual 87, 3) := by decide +kernel
theorem dX2_readNumber_4 : decode cX2_readNumber 4 = .ok (.istore_n 1, 1) := by decide +kernel
theorem dX2_readNumber_5 : decode cX2_readNumber 5 = .ok (.iload_n 1, 1) := by decide +kernel
theorem dX2_readNumber_6 : decode cX2_readNumber 6 = .ok (.iconst (-1), 1) := by decide +kernel
theorem dX2_readNumber_7 : decode cX2_readNumber 7 = .ok (.if_icmp .ne 5, 3) := by decide +kernel
theorem dX2_readNumber_10 : decode cX2_readNumber 10 = .ok (.iconst (-1), 1) := by decide +kernel
theorem dX2_readNumber_11 : decode cX2_readNumber 11 = .ok (.ireturn, 1) := by decide +kernel
theorem dX2_readNumber_12 : decode cX2_readNumber 12 = .ok (.aload_n 0, 1) := by decide +kernel
theorem dX2_readNumber_13 : decode cX2_readNumber 13 = .ok (.dup, 1) := by decide +kernel
theorem dX2_readNumber_14 : decode cX2_readNumber 14 = .ok (.getfield 19, 3) := by decide +kernel
theorem dX2_readNumber_17 : decode cX2_readNumber 17 = .ok (.iconst 1, 1) := by decide +kernel
theorem dX2_readNumber_18 : decode cX2_readNumber 18 = .ok (.iadd, 1) := by decide +kernel
theorem dX2_readNumber_19 : decode cX2_readNumber 19 = .ok (.putfield 19, 3) := by decide +kernel
theorem dX2_readNumber_22 : decode cX2_readNumber 22 = .ok (.iload_n 1, 1) := by decide +kernel
theorem dX2_readNumber_23 : decode cX2_readNumber 23 = .ok (.ifCond .ne 7, 3) := by decide +kernel
theorem dX2_readNumber_26 : decode cX2_readNumber 26 = .ok (.iconst (-1), 1) := by decide +kernel
theorem dX2_readNumber_27 : decode cX2_readNumber 27 = .ok (.goto 7, 3) := by decide +kernel
theorem dX2_readNumber_30 : decode cX2_readNumber 30 = .ok (.aload_n 0, 1) := by decide +kernel
theorem dX2_readNumber_31 : decode cX2_readNumber 31 = .ok (.invokevirtual 87, 3) := by decide +kernel
theorem dX2_readNumber_34 : decode cX2_readNumber 34 = .ok (.istore_n 2, 1) := by decide +kernel
theorem dX2_readNumber_35 : decode cX2_readNumber 35 = .ok (.iload_n 2, 1) := by decide +kernel
theorem dX2_readNumber_36 : decode cX2_readNumber 36 = .ok (.iconst (-1), 1) := by decide +kernel
theorem dX2_readNumber_37 : decode cX2_readNumber 37 = .ok (.if_icmp .ne 5, 3) := by decide +kernel
theorem dX2_readNumber_40 : decode cX2_readNumber 40 = .ok (.iload_n 1, 1) := by decide +kernel
theorem dX2_readNumber_41 : decode cX2_readNumber 41 = .ok (.ireturn, 1) := by decide +kernel
theorem dX2_readNumber_42 : decode cX2_readNumber 42 = .ok (.aload_n 0, 1) := by decide +kernel
theorem dX2_readNumber_43 : decode cX2_readNumber 43 = .ok (.dup, 1) := by decide +kernel
theorem dX2_readNumber_44 : decode cX2_readNumber 44 = .ok (.getfield 19, 3) := by decide +kernel
theorem dX2_readNumber_47 : decode cX2_readNumber 47 = .ok (.iconst 1, 1) := by decide +kernel
theorem dX2_readNumber_48 : decode cX2_readNumber 48 = .ok (.iadd, 1) := by decide +kernel
theorem dX2_readNumber_49 : decode cX2_readNumber 49 = .ok (.putfield 19, 3) := by decide +kernel
theorem dX2_readNumber_52 : decode cX2_readNumber 52 = .ok (.bipush 10, 2) := by decide +kernel
theorem dX2_readNumber_54 : decode cX2_readNumber 54 = .ok (.iload_n 1, 1) := by decide +kernel
theorem dX2_readNumber_55 : decode cX2_readNumber 55 = .ok (.imul, 1) := by decide +kernel
theorem dX2_readNumber_56 : decode cX2_readNumber 56 = .ok (.iload_n 2, 1) := by decide +kernel
theorem dX2_readNumber_57 : decode cX2_readNumber 57 = .ok (.iadd, 1) := by decide +kernel
theorem dX2_readNumber_58 : decode cX2_readNumber 58 = .ok (.ireturn, 1) := by decide +kernel
theorem dX2_digitHere_0 : decode cX2_digitHere 0 = .ok (.aload_n 0, 1) := by decide +kernel
theorem dX2_digitHere_1 : decode cX2_digitHere 1 = .ok (.getfield 19, 3) := by decide +kernel
theorem dX2_digitHere_4 : decode cX2_digitHere 4 = .ok (.aload_n 0, 1) := by decide +kernel
theorem dX2_digitHere_5 : decode cX2_digitHere 5 = .ok (.getfield 15, 3) := by decide +kernel
theorem dX2_digitHere_8 : decode cX2_digitHere 8 = .ok (.if_icmp .ge 31, 3) := by decide +kernel
theorem dX2_digitHere_11 : decode cX2_digitHere 11 = .ok (.aload_n 0, 1) := by decide +kernel
theorem dX2_digitHere_12 : decode cX2_digitHere 12 = .ok (.getfield 11, 3) := by decide +kernel
theorem dX2_digitHere_15 : decode cX2_digitHere 15 = .ok (.aload_n 0, 1) := by decide +kernel
theorem dX2_digitHere_16 : decode cX2_digitHere 16 = .ok (.getfield 19, 3) := by decide +kernel
theorem dX2_digitHere_19 : decode cX2_digitHere 19 = .ok (.iaload, 1) := by decide +kernel
theorem dX2_digitHere_20 : decode cX2_digitHere 20 = .ok (.bipush 48, 2) := by decide +kernel
theorem dX2_digitHere_22 : decode cX2_digitHere 22 = .ok (.if_icmp .lt 17, 3) := by decide +kernel
theorem dX2_digitHere_25 : decode cX2_digitHere 25 = .ok (.aload_n 0, 1) := by decide +kernel
theorem dX2_digitHere_26 : decode cX2_digitHere 26 = .ok (.getfield 11, 3) := by decide +kernel
theorem dX2_digitHere_29 : decode cX2_digitHere 29 = .ok (.aload_n 0, 1) := by decide +kernel
theorem dX2_digitHere_30 : decode cX2_digitHere 30 = .ok (.getfield 19, 3) := by decide +kernel
theorem dX2_digitHere_33 : decode cX2_digitHere 33 = .ok (.iaload, 1) := by decide +kernel
theorem dX2_digitHere_34 : decode cX2_digitHere 34 = .ok (.bipush 57, 2) := by decide +kernel
theorem dX2_digitHere_36 : decode cX2_digitHere 36 = .ok (.if_icmp .le 5, 3) := by decide +kernel
theorem dX2_digitHere_39 : decode cX2_digitHere 39 = .ok (.iconst (-1), 1) := by decide +kernel
theorem dX2_digitHere_40 : decode cX2_digitHere 40 = .ok (.ireturn, 1) := by decide +kernel
theorem dX2_digitHere_41 : decode cX2_digitHere 41 = .ok (.aload_n 0, 1) := by decide +kernel
theorem dX2_digitHere_42 : decode cX2_digitHere 42 = .ok (.getfield 11, 3) := by decide +kernel
theorem dX2_digitHere_45 : decode cX2_digitHere 45 = .ok (.aload_n 0, 1) := by decide +kernel
theorem dX2_digitHere_46 : decode cX2_digitHere 46 = .ok (.getfield 19, 3) := by decide +kernel
theorem dX2_digitHere_49 : decode cX2_digitHere 49 = .ok (.iaload, 1) := by decide +kernel
theorem dX2_digitHere_50 : decode cX2_digitHere 50 = .ok (.bipush 48, 2) := by decide +kernel
theorem dX2_digitHere_52 : decode cX2_digitHere 52 = .ok (.isub, 1) := by decide +kernel
theorem dX2_digitHere_53 : decode cX2_digitHere 53 = .ok (.ireturn, 1) := by decide +kernel
theorem dX2_isHere_0 : decode cX2_isHere 0 = .ok (.aload_n 0, 1) := by decide +kernel
theorem dX2_isHere_1 : decode cX2_isHere 1 = .ok (.getfield 19, 3) := by decide +kernel
theorem dX2_isHere_4 : decode cX2_isHere 4 = .ok (.aload_n 0, 1) := by decide +kernel
theorem dX2_isHere_5 : decode cX2_isHere 5 = .ok (.getfield 15, 3) := by decide +kernel
theorem dX2_isHere_8 : decode cX2_isHere 8 = .ok (.if_icmp .ge 20, 3) := by decide +kernel
theorem dX2_isHere_11 : decode cX2_isHere 11 = .ok (.aload_n 0, 1) := by decide +kernel
theorem dX2_isHere_12 : decode cX2_isHere 12 = .ok (.getfield 11, 3) := by decide +kernel
theorem dX2_isHere_15 : decode cX2_isHere 15 = .ok (.aload_n 0, 1) := by decide +kernel
theorem dX2_isHere_16 : decode cX2_isHere 16 = .ok (.getfield 19, 3) := by decide +kernel
theorem dX2_isHere_19 : decode cX2_isHere 19 = .ok (.iaload, 1) := by decide +kernel
theorem dX2_isHere_20 : decode cX2_isHere 20 = .ok (.iload_n 1, 1) := by decide +kernel
theorem dX2_isHere_21 : decode cX2_isHere 21 = .ok (.if_icmp .ne 7, 3) := by decide +kernel
theorem dX2_isHere_24 : decode cX2_isHere 24 = .ok (.iconst 1, 1) := by decide +kernel
theorem dX2_isHere_25 : decode cX2_isHere 25 = .ok (.goto 4, 3) := by decide +kernel
theorem dX2_isHere_28 : decode cX2_isHere 28 = .ok (.iconst 0, 1) := by decide +kernel
theorem dX2_isHere_29 : decode cX2_isHere 29 = .ok (.ireturn, 1) := by decide +kernel
end
section
theorem dX3_init_0 : decode cX3_init 0 = .ok (.aload_n 0, 1) := by decide +kernel
theorem dX3_init_1 : decode cX3_init 1 = .ok (.invokespecial 3, 3) := by decide +kernel
theorem dX3_init_4 : decode cX3_init 4 = .ok (.aload_n 0, 1) := by decide +kernel
theorem dX3_init_5 : decode cX3_init 5 = .ok (.bipush 30, 2) := by decide +kernel
theorem dX3_init_7 : decode cX3_init 7 = .ok (.newarray .int, 2) := by decide +kernel
theorem dX3_init_9 : decode cX3_init 9 = .ok (.putfield 11, 3) := by decide +kernel
theorem dX3_init_12 : decode cX3_init 12 = .ok (.aload_n 0, 1) := by decide +kernel
theorem dX3_init_13 : decode cX3_init 13 = .ok (.bipush 30, 2) := by decide +kernel
theorem dX3_init_15 : decode cX3_init 15 = .ok (.newarray .int, 2) := by decide +kernel
theorem dX3_init_17 : decode cX3_init 17 = .ok (.putfield 15, 3) := by decide +kernel
theorem dX3_init_20 : decode cX3_init 20 = .ok (.aload_n 0, 1) := by decide +kernel
theorem dX3_init_21 : decode cX3_init 21 = .ok (.bipush 30, 2) := by decide +kernel
theorem dX3_init_23 : decode cX3_init 23 = .ok (.newarray .int, 2) := by decide +kernel
theorem dX3_init_25 : decode cX3_init 25 = .ok (.putfield 18, 3) := by decide +kernel
theorem dX3_init_28 : decode cX3_init 28 = .ok (.aload_n 0, 1) := by decide +kernel
theorem dX3_init_29 : decode cX3_init 29 = .ok (.sipush 270, 3) := by decide +kernel
theorem dX3_init_32 : decode cX3_init 32 = .ok (.newarray .int, 2) := by decide +kernel
theorem dX3_init_34 : decode cX3_init 34 = .ok (.putfield 21, 3) := by decide +kernel
theorem dX3_init_37 : decode cX3_init 37 = .ok (.aload_n 0, 1) := by decide +kernel
theorem dX3_init_38 : decode cX3_init 38 = .ok (.bipush 16, 2) := by decide +kernel
theorem dX3_init_40 : decode cX3_init 40 = .ok (.newarray .int, 2) := by decide +kernel
theorem dX3_init_42 : decode cX3_init 42 = .ok (.putfield 26, 3) := by decide +kernel
theorem dX3_init_45 : decode cX3_init 45 = .ok (.aload_n 0, 1) := by decide +kernel
theorem dX3_init_46 : decode cX3_init 46 = .ok (.iconst 0, 1) := by decide +kernel
theorem dX3_init_47 : decode cX3_init 47 = .ok (.putfield 29, 3) := by decide +kernel
theorem dX3_init_50 : decode cX3_init 50 = .ok (.aload_n 0, 1) := by decide +kernel
theorem dX3_init_51 : decode cX3_init 51 = .ok (.aload_n 1, 1) := by decide +kernel
theorem dX3_init_52 : decode cX3_init 52 = .ok (.putfield 33, 3) := by decide +kernel
theorem dX3_init_55 : decode cX3_init 55 = .ok (.return_, 1) := by decide +kernel
theorem dX3_count_0 : decode cX3_count 0 = .ok (.aload_n 0, 1) := by decide +kernel
theorem dX3_count_1 : decode cX3_count 1 = .ok (.getfield 29, 3) := by decide +kernel
theorem dX3_count_4 : decode cX3_count 4 = .ok (.ireturn, 1) := by decide +kernel
theorem dX3_has_0 : decode cX3_has 0 = .ok (.iload_n 1, 1) := by decide +kernel
theorem dX3_has_1 : decode cX3_has 1 = .ok (.ifCond .lt 15, 3) := by decide +kernel
theorem dX3_has_4 : decode cX3_has 4 = .ok (.iload_n 1, 1) := by decide +kernel
theorem dX3_has_5 : decode cX3_has 5 = .ok (.aload_n 0, 1) := by decide +kernel
theorem dX3_has_6 : decode cX3_has 6 = .ok (.getfield 29, 3) := by decide +kernel
theorem dX3_has_9 : decode cX3_has 9 = .ok (.if_icmp .ge 7, 3) := by decide +kernel
theorem dX3_has_12 : decode cX3_has 12 = .ok (.iconst 1, 1) := by decide +kernel
theorem dX3_has_13 : decode cX3_has 13 = .ok (.goto 4, 3) := by decide +kernel
theorem dX3_has_16 : decode cX3_has 16 = .ok (.iconst 0, 1) := by decide +kernel
theorem dX3_has_17 : decode cX3_has 17 = .ok (.ireturn, 1) := by decide +kernel
theorem dX3_append_0 : decode cX3_append 0 = .ok (.aload_n 0, 1) := by decide +kernel
theorem dX3_append_1 : decode cX3_append 1 = .ok (.getfield 29, 3) := by decide +kernel
theorem dX3_append_4 : decode cX3_append 4 = .ok (.bipush 30, 2) := by decide +kernel
theorem dX3_append_6 : decode cX3_append 6 = .ok (.if_icmp .lt 5, 3) := by decide +kernel
theorem dX3_append_9 : decode cX3_append 9 = .ok (.iconst (-1), 1) := by decide +kernel
theorem dX3_append_10 : decode cX3_append 10 = .ok (.ireturn, 1) := by decide +kernel
theorem dX3_append_11 : decode cX3_append 11 = .ok (.aload_n 0, 1) := by decide +kernel
theorem dX3_append_12 : decode cX3_append 12 = .ok (.getfield 11, 3) := by decide +kernel
theorem dX3_append_15 : decode cX3_append 15 = .ok (.aload_n 0, 1) := by decide +kernel
theorem dX3_append_16 : decode cX3_append 16 = .ok (.getfield 29, 3) := by decide +kernel
theorem dX3_append_19 : decode cX3_append 19 = .ok (.iload_n 1, 1) := by decide +kernel
theorem dX3_append_20 : decode cX3_append 20 = .ok (.iastore, 1) := by decide +kernel
theorem dX3_append_21 : decode cX3_append 21 = .ok (.aload_n 0, 1) := by decide +kernel
theorem dX3_append_22 : decode cX3_append 22 = .ok (.getfield 15, 3) := by decide +kernel
theorem dX3_append_25 : decode cX3_append 25 = .ok (.aload_n 0, 1) := by decide +kernel
theorem dX3_append_26 : decode cX3_append 26 = .ok (.getfield 29, 3) := by decide +kernel
theorem dX3_append_29 : decode cX3_append 29 = .ok (.iload_n 2, 1) := by decide +kernel
theorem dX3_append_30 : decode cX3_append 30 = .ok (.iastore, 1) := by decide +kernel
theorem dX3_append_31 : decode cX3_append 31 = .ok (.aload_n 0, 1) := by decide +kernel
theorem dX3_append_32 : decode cX3_append 32 = .ok (.dup, 1) := by decide +kernel
theorem dX3_append_33 : decode cX3_append 33 = .ok (.getfield 29, 3) := by decide +kernel
theorem dX3_append_36 : decode cX3_append 36 = .ok (.iconst 1, 1) := by decide +kernel
theorem dX3_append_37 : decode cX3_append 37 = .ok (.iadd, 1) := by decide +kernel
theorem dX3_append_38 : decode cX3_append 38 = .ok (.putfield 29, 3) := by decide +kernel
theorem dX3_append_41 : decode cX3_append 41 = .ok (.aload_n 0, 1) := by decide +kernel
theorem dX3_append_42 : decode cX3_append 42 = .ok (.getfield 29, 3) := by decide +kernel
theorem dX3_append_45 : decode cX3_append 45 = .ok (.iconst 1, 1) := by decide +kernel
theorem dX3_append_46 : decode cX3_append 46 = .ok (.isub, 1) := by decide +kernel
theorem dX3_append_47 : decode cX3_append 47 = .ok (.ireturn, 1) := by decide +kernel
set_option maxRecDepth 20000 in
theorem ggX3_addCell_X3_cellAt : GoodIn wsX3_addCell wsX3_cellAt := goodIn_r _ [7, 2, 8, 9, 10, 11, 12, 13, 14] (by decide +kernel) (by decide +kernel)
set_option maxRecDepth 20000 in
theorem gX3_addCell_X3_cellAt : GoodIn wsX3_addCell (wsV RX3 37 RX3 yX3_cellAt wsX3_cellAt) := goodIn_app (goodIn_of _ (by decide +kernel)) ggX3_addCell_X3_cellAt
theorem dX3_addCell_0 : decode cX3_addCell 0 = .ok (.aload_n 0, 1) := by decide +kernel
theorem dX3_addCell_1 : decode cX3_addCell 1 = .ok (.getfield 18, 3) := by decide +kernel
theorem dX3_addCell_4 : decode cX3_addCell 4 = .ok (.iload_n 1, 1) := by decide +kernel
theorem dX3_addCell_5 : decode cX3_addCell 5 = .ok (.iaload, 1) := by decide +kernel
theorem dX3_addCell_6 : decode cX3_addCell 6 = .ok (.istore_n 3, 1) := by decide +kernel
theorem dX3_addCell_7 : decode cX3_addCell 7 = .ok (.iload_n 3, 1) := by decide +kernel
theorem dX3_addCell_8 : decode cX3_addCell 8 = .ok (.bipush 9, 2) := by decide +kernel
theorem dX3_addCell_10 : decode cX3_addCell 10 = .ok (.if_icmp .lt 5, 3) := by decide +kernel
theorem dX3_addCell_13 : decode cX3_addCell 13 = .ok (.iconst 0, 1) := by decide +kernel
theorem dX3_addCell_14 : decode cX3_addCell 14 = .ok (.ireturn, 1) := by decide +kernel
theorem dX3_addCell_15 : decode cX3_addCell 15 = .ok (.iconst 0, 1) := by decide +kernel
theorem dX3_addCell_16 : decode cX3_addCell 16 = .ok (.istore 4, 2) := by decide +kernel
theorem dX3_addCell_18 : decode cX3_addCell 18 = .ok (.iload 4, 2) := by decide +kernel
theorem dX3_addCell_20 : decode cX3_addCell 20 = .ok (.iload_n 3, 1) := by decide +kernel
theorem dX3_addCell_21 : decode cX3_addCell 21 = .ok (.if_icmp .ge 22, 3) := by decide +kernel
theorem dX3_addCell_24 : decode cX3_addCell 24 = .ok (.aload_n 0, 1) := by decide +kernel
theorem dX3_addCell_25 : decode cX3_addCell 25 = .ok (.iload_n 1, 1) := by decide +kernel
theorem dX3_addCell_26 : decode cX3_addCell 26 = .ok (.iload 4, 2) := by decide +kernel
theorem dX3_addCell_28 : decode cX3_addCell 28 = .ok (.invokevirtual 37, 3) := by decide +kernel
theorem dX3_addCell_31 : decode cX3_addCell 31 = .ok (.iload_n 2, 1) := by decide +kernel
theorem dX3_addCell_32 : decode cX3_addCell 32 = .ok (.if_icmp .ne 5, 3) := by decide +kernel
theorem dX3_addCell_35 : decode cX3_addCell 35 = .ok (.iconst 0, 1) := by decide +kernel
theorem dX3_addCell_36 : decode cX3_addCell 36 = .ok (.ireturn, 1) := by decide +kernel
theorem dX3_addCell_37 : decode cX3_addCell 37 = .ok (.iinc 4 1, 3) := by decide +kernel
theorem dX3_addCell_40 : decode cX3_addCell 40 = .ok (.goto (-22), 3) := by decide +kernel
theorem dX3_addCell_43 : decode cX3_addCell 43 = .ok (.aload_n 0, 1) := by decide +kernel
theorem dX3_addCell_44 : decode cX3_addCell 44 = .ok (.getfield 21, 3) := by decide +kernel
theorem dX3_addCell_47 : decode cX3_addCell 47 = .ok (.bipush 9, 2) := by decide +kernel
theorem dX3_addCell_49 : decode cX3_addCell 49 = .ok (.iload_n 1, 1) := by decide +kernel
theorem dX3_addCell_50 : decode cX3_addCell 50 = .ok (.imul, 1) := by decide +kernel
theorem dX3_addCell_51 : decode cX3_addCell 51 = .ok (.iload_n 3, 1) := by decide +kernel
theorem dX3_addCell_52 : decode cX3_addCell 52 = .ok (.iadd, 1) := by decide +kernel
theorem dX3_addCell_53 : decode cX3_addCell 53 = .ok (.iload_n 2, 1) := by decide +kernel
theorem dX3_addCell_54 : decode cX3_addCell 54 = .ok (.iastore, 1) := by decide +kernel
theorem dX3_addCell_55 : decode cX3_addCell 55 = .ok (.aload_n 0, 1) := by decide +kernel
theorem dX3_addCell_56 : decode cX3_addCell 56 = .ok (.getfield 18, 3) := by decide +kernel
theorem dX3_addCell_59 : decode cX3_addCell 59 = .ok (.iload_n 1, 1) := by decide +kernel
theorem dX3_addCell_60 : decode cX3_addCell 60 = .ok (.iload_n 3, 1) := by decide +kernel
theorem dX3_addCell_61 : decode cX3_addCell 61 = .ok (.iconst 1, 1) := by decide +kernel
theorem dX3_addCell_62 : decode cX3_addCell 62 = .ok (.iadd, 1) := by decide +kernel
theorem dX3_addCell_63 : decode cX3_addCell 63 = .ok (.iastore, 1) := by decide +kernel
theorem dX3_addCell_64 : decode cX3_addCell 64 = .ok (.iconst 1, 1) := by decide +kernel
theorem dX3_addCell_65 : decode cX3_addCell 65 = .ok (.ireturn, 1) := by decide +kernel
theorem dX3_cellAt_0 : decode cX3_cellAt 0 = .ok (.aload_n 0, 1) := by decide +kernel
theorem dX3_cellAt_1 : decode cX3_cellAt 1 = .ok (.getfield 21, 3) := by decide +kernel
theorem dX3_cellAt_4 : decode cX3_cellAt 4 = .ok (.bipush 9, 2) := by decide +kernel
theorem dX3_cellAt_6 : decode cX3_cellAt 6 = .ok (.iload_n 1, 1) := by decide +kernel
theorem dX3_cellAt_7 : decode cX3_cellAt 7 = .ok (.imul, 1) := by decide +kernel
theorem dX3_cellAt_8 : decode cX3_cellAt 8 = .ok (.iload_n 2, 1) := by decide +kernel
theorem dX3_cellAt_9 : decode cX3_cellAt 9 = .ok (.iadd, 1) := by decide +kernel
theorem dX3_cellAt_10 : decode cX3_cellAt 10 = .ok (.iaload, 1) := by decide +kernel
theorem dX3_cellAt_11 : decode cX3_cellAt 11 = .ok (.ireturn, 1) := by decide +kernel
set_option maxRecDepth 20000 in
theorem ggX3_allSaid_X3_cellAt : GoodIn wsX3_allSaid wsX3_cellAt := goodIn_r _ [6, 7, 8, 9, 10, 11, 12, 13, 14] (by decide +kernel) (by decide +kernel)
set_option maxRecDepth 20000 in
theorem gX3_allSaid_X3_cellAt : GoodIn wsX3_allSaid (wsV RX3 37 RX3 yX3_cellAt wsX3_cellAt) := goodIn_app (goodIn_of _ (by decide +kernel)) ggX3_allSaid_X3_cellAt
theorem dX3_allSaid_0 : decode cX3_allSaid 0 = .ok (.iconst 0, 1) := by decide +kernel
theorem dX3_allSaid_1 : decode cX3_allSaid 1 = .ok (.istore_n 3, 1) := by decide +kernel
theorem dX3_allSaid_2 : decode cX3_allSaid 2 = .ok (.iload_n 3, 1) := by decide +kernel
theorem dX3_allSaid_3 : decode cX3_allSaid 3 = .ok (.aload_n 0, 1) := by decide +kernel
theorem dX3_allSaid_4 : decode cX3_allSaid 4 = .ok (.getfield 18, 3) := by decide +kernel
theorem dX3_allSaid_7 : decode cX3_allSaid 7 = .ok (.iload_n 1, 1) := by decide +kernel
theorem dX3_allSaid_8 : decode cX3_allSaid 8 = .ok (.iaload, 1) := by decide +kernel
theorem dX3_allSaid_9 : decode cX3_allSaid 9 = .ok (.if_icmp .ge 23, 3) := by decide +kernel
theorem dX3_allSaid_12 : decode cX3_allSaid 12 = .ok (.aload_n 2, 1) := by decide +kernel
theorem dX3_allSaid_13 : decode cX3_allSaid 13 = .ok (.aload_n 0, 1) := by decide +kernel
theorem dX3_allSaid_14 : decode cX3_allSaid 14 = .ok (.iload_n 1, 1) := by decide +kernel
theorem dX3_allSaid_15 : decode cX3_allSaid 15 = .ok (.iload_n 3, 1) := by decide +kernel
theorem dX3_allSaid_16 : decode cX3_allSaid 16 = .ok (.invokevirtual 37, 3) := by decide +kernel
theorem dX3_allSaid_19 : decode cX3_allSaid 19 = .ok (.iaload, 1) := by decide +kernel
theorem dX3_allSaid_20 : decode cX3_allSaid 20 = .ok (.iconst (-1), 1) := by decide +kernel
theorem dX3_allSaid_21 : decode cX3_allSaid 21 = .ok (.if_icmp .ne 5, 3) := by decide +kernel
theorem dX3_allSaid_24 : decode cX3_allSaid 24 = .ok (.iconst 0, 1) := by decide +kernel
theorem dX3_allSaid_25 : decode cX3_allSaid 25 = .ok (.ireturn, 1) := by decide +kernel
theorem dX3_allSaid_26 : decode cX3_allSaid 26 = .ok (.iinc 3 1, 3) := by decide +kernel
theorem dX3_allSaid_29 : decode cX3_allSaid 29 = .ok (.goto (-27), 3) := by decide +kernel
theorem dX3_allSaid_32 : decode cX3_allSaid 32 = .ok (.iconst 1, 1) := by decide +kernel
theorem dX3_allSaid_33 : decode cX3_allSaid 33 = .ok (.ireturn, 1) := by decide +kernel
set_option maxRecDepth 20000 in
theorem ggX3_meets_X3_areUnlike : GoodIn wsX3_meets wsX3_areUnlike := goodIn_r _ [9, 3, 10, 11, 12, 8, 13, 14, 44, 45, 46, 47, 48, 49, 50] (by decide +kernel) (by decide +kernel)
set_option maxRecDepth 20000 in
theorem gX3_meets_X3_areUnlike : GoodIn wsX3_meets (wsV RX3 41 RX3 yX3_areUnlike wsX3_areUnlike) := goodIn_app (goodIn_of _ (by decide +kernel)) ggX3_meets_X3_areUnlike
set_option maxRecDepth 20000 in
theorem ggX3_meets_X3_sum : GoodIn wsX3_meets wsX3_sum := goodIn_r _ [18, 3, 10, 11, 12, 8, 13, 14, 44, 45, 46, 47, 48, 49, 50] (by decide +kernel) (by decide +kernel)
set_option maxRecDepth 20000 in
theorem gX3_meets_X3_sum : GoodIn wsX3_meets (wsV RX3 45 RX3 yX3_sum wsX3_sum) := goodIn_app (goodIn_of _ (by decide +kernel)) ggX3_meets_X3_sum
set_option maxRecDepth 20000 in
theorem ggX3_meets_X3_rise : GoodIn wsX3_meets wsX3_rise := goodIn_r _ [22, 3, 10, 11, 12, 8, 13, 14, 44, 45, 46, 47, 48, 49, 50] (by decide +kernel) (by decide +kernel)
set_option maxRecDepth 20000 in
theorem gX3_meets_X3_rise : GoodIn wsX3_meets (wsV RX3 49 RX3 yX3_rise wsX3_rise) := goodIn_app (goodIn_of _ (by decide +kernel)) ggX3_meets_X3_rise
set_option maxRecDepth 20000 in
theorem ggX3_meets_X3_likeTheFirst : GoodIn wsX3_meets wsX3_likeTheFirst := goodIn_r _ [26, 3, 10, 11, 12, 8, 13, 14, 44, 45, 46, 47, 48, 49, 50] (by decide +kernel) (by decide +kernel)
set_option maxRecDepth 20000 in
theorem gX3_meets_X3_likeTheFirst : GoodIn wsX3_meets (wsV RX3 52 RX3 yX3_likeTheFirst wsX3_likeTheFirst) := goodIn_app (goodIn_of _ (by decide +kernel)) ggX3_meets_X3_likeTheFirst
set_option maxRecDepth 20000 in
theorem ggX3_meets_X3_cellsWithOne : GoodIn wsX3_meets wsX3_cellsWithOne := goodIn_r _ [30, 3, 10, 11, 12, 8, 13, 14, 44, 45, 46, 47, 48, 49, 50] (by decide +kernel) (by decide +kernel)
set_option maxRecDepth 20000 in
theorem gX3_meets_X3_cellsWithOne : GoodIn wsX3_meets (wsV RX3 55 RX3 yX3_cellsWithOne wsX3_cellsWithOne) := goodIn_app (goodIn_of _ (by decide +kernel)) ggX3_meets_X3_cellsWithOne
set_option maxRecDepth 20000 in
theorem ggX3_meets_X0_hangTogether : GoodIn wsX3_meets wsX0_hangTogether := goodIn_r _ [35, 36, 37, 38, 39, 34, 40, 41, 42, 43, 51, 52, 53, 54, 55] (by decide +kernel) (by decide +kernel)
set_option maxRecDepth 20000 in
theorem gX3_meets_X0_hangTogether : GoodIn wsX3_meets (wsV RX3 58 RX0 yX0_hangTogether wsX0_hangTogether) := goodIn_app (goodIn_of _ (by decide +kernel)) ggX3_meets_X0_hangTogether
theorem dX3_meets_0 : decode cX3_meets 0 = .ok (.aload_n 0, 1) := by decide +kernel
theorem dX3_meets_1 : decode cX3_meets 1 = .ok (.getfield 11, 3) := by decide +kernel
theorem dX3_meets_4 : decode cX3_meets 4 = .ok (.iload_n 1, 1) := by decide +kernel
theorem dX3_meets_5 : decode cX3_meets 5 = .ok (.iaload, 1) := by decide +kernel
theorem dX3_meets_6 : decode cX3_meets 6 = .ok (.tableswitch 95 0 3 #[30, 37, 58, 65], 30) := by decide +kernel
theorem dX3_meets_36 : decode cX3_meets 36 = .ok (.aload_n 0, 1) := by decide +kernel
theorem dX3_meets_37 : decode cX3_meets 37 = .ok (.iload_n 1, 1) := by decide +kernel
theorem dX3_meets_38 : decode cX3_meets 38 = .ok (.aload_n 2, 1) := by decide +kernel
theorem dX3_meets_39 : decode cX3_meets 39 = .ok (.invokevirtual 41, 3) := by decide +kernel
theorem dX3_meets_42 : decode cX3_meets 42 = .ok (.ireturn, 1) := by decide +kernel
theorem dX3_meets_43 : decode cX3_meets 43 = .ok (.aload_n 0, 1) := by decide +kernel
theorem dX3_meets_44 : decode cX3_meets 44 = .ok (.iload_n 1, 1) := by decide +kernel
theorem dX3_meets_45 : decode cX3_meets 45 = .ok (.aload_n 2, 1) := by decide +kernel
theorem dX3_meets_46 : decode cX3_meets 46 = .ok (.invokevirtual 45, 3) := by decide +kernel
theorem dX3_meets_49 : decode cX3_meets 49 = .ok (.aload_n 0, 1) := by decide +kernel
theorem dX3_meets_50 : decode cX3_meets 50 = .ok (.getfield 15, 3) := by decide +kernel
theorem dX3_meets_53 : decode cX3_meets 53 = .ok (.iload_n 1, 1) := by decide +kernel
theorem dX3_meets_54 : decode cX3_meets 54 = .ok (.iaload, 1) := by decide +kernel
theorem dX3_meets_55 : decode cX3_meets 55 = .ok (.if_icmp .ne 7, 3) := by decide +kernel
theorem dX3_meets_58 : decode cX3_meets 58 = .ok (.iconst 1, 1) := by decide +kernel
theorem dX3_meets_59 : decode cX3_meets 59 = .ok (.goto 4, 3) := by decide +kernel
theorem dX3_meets_62 : decode cX3_meets 62 = .ok (.iconst 0, 1) := by decide +kernel
theorem dX3_meets_63 : decode cX3_meets 63 = .ok (.ireturn, 1) := by decide +kernel
theorem dX3_meets_64 : decode cX3_meets 64 = .ok (.aload_n 0, 1) := by decide +kernel
theorem dX3_meets_65 : decode cX3_meets 65 = .ok (.iload_n 1, 1) := by decide +kernel
theorem dX3_meets_66 : decode cX3_meets 66 = .ok (.aload_n 2, 1) := by decide +kernel
theorem dX3_meets_67 : decode cX3_meets 67 = .ok (.invokevirtual 49, 3) := by decide +kernel
theorem dX3_meets_70 : decode cX3_meets 70 = .ok (.ireturn, 1) := by decide +kernel
theorem dX3_meets_71 : decode cX3_meets 71 = .ok (.aload_n 0, 1) := by decide +kernel
theorem dX3_meets_72 : decode cX3_meets 72 = .ok (.getfield 18, 3) := by decide +kernel
theorem dX3_meets_75 : decode cX3_meets 75 = .ok (.iload_n 1, 1) := by decide +kernel
theorem dX3_meets_76 : decode cX3_meets 76 = .ok (.iaload, 1) := by decide +kernel
theorem dX3_meets_77 : decode cX3_meets 77 = .ok (.ifCond .eq 18, 3) := by decide +kernel
theorem dX3_meets_80 : decode cX3_meets 80 = .ok (.aload_n 0, 1) := by decide +kernel
theorem dX3_meets_81 : decode cX3_meets 81 = .ok (.iload_n 1, 1) := by decide +kernel
theorem dX3_meets_82 : decode cX3_meets 82 = .ok (.aload_n 2, 1) := by decide +kernel
theorem dX3_meets_83 : decode cX3_meets 83 = .ok (.invokevirtual 52, 3) := by decide +kernel
theorem dX3_meets_86 : decode cX3_meets 86 = .ok (.aload_n 0, 1) := by decide +kernel
theorem dX3_meets_87 : decode cX3_meets 87 = .ok (.getfield 15, 3) := by decide +kernel
theorem dX3_meets_90 : decode cX3_meets 90 = .ok (.iload_n 1, 1) := by decide +kernel
theorem dX3_meets_91 : decode cX3_meets 91 = .ok (.iaload, 1) := by decide +kernel
theorem dX3_meets_92 : decode cX3_meets 92 = .ok (.if_icmp .ne 7, 3) := by decide +kernel
theorem dX3_meets_95 : decode cX3_meets 95 = .ok (.iconst 1, 1) := by decide +kernel
theorem dX3_meets_96 : decode cX3_meets 96 = .ok (.goto 4, 3) := by decide +kernel
theorem dX3_meets_99 : decode cX3_meets 99 = .ok (.iconst 0, 1) := by decide +kernel
theorem dX3_meets_100 : decode cX3_meets 100 = .ok (.ireturn, 1) := by decide +kernel
theorem dX3_meets_101 : decode cX3_meets 101 = .ok (.aload_n 0, 1) := by decide +kernel
theorem dX3_meets_102 : decode cX3_meets 102 = .ok (.getfield 33, 3) := by decide +kernel
theorem dX3_meets_105 : decode cX3_meets 105 = .ok (.aload_n 0, 1) := by decide +kernel
theorem dX3_meets_106 : decode cX3_meets 106 = .ok (.iload_n 1, 1) := by decide +kernel
theorem dX3_meets_107 : decode cX3_meets 107 = .ok (.aload_n 2, 1) := by decide +kernel
theorem dX3_meets_108 : decode cX3_meets 108 = .ok (.invokevirtual 55, 3) := by decide +kernel
theorem dX3_meets_111 : decode cX3_meets 111 = .ok (.invokevirtual 58, 3) := by decide +kernel
theorem dX3_meets_114 : decode cX3_meets 114 = .ok (.ireturn, 1) := by decide +kernel
set_option maxRecDepth 20000 in
theorem ggX3_areUnlike_X3_cellAt : GoodIn wsX3_areUnlike wsX3_cellAt := goodIn_r _ [6, 7, 8, 9, 10, 11, 12, 13, 14] (by decide +kernel) (by decide +kernel)
set_option maxRecDepth 20000 in
theorem gX3_areUnlike_X3_cellAt : GoodIn wsX3_areUnlike (wsV RX3 37 RX3 yX3_cellAt wsX3_cellAt) := goodIn_app (goodIn_of _ (by decide +kernel)) ggX3_areUnlike_X3_cellAt
theorem dX3_areUnlike_0 : decode cX3_areUnlike 0 = .ok (.iconst 0, 1) := by decide +kernel
theorem dX3_areUnlike_1 : decode cX3_areUnlike 1 = .ok (.istore_n 3, 1) := by decide +kernel
theorem dX3_areUnlike_2 : decode cX3_areUnlike 2 = .ok (.iconst 0, 1) := by decide +kernel
theorem dX3_areUnlike_3 : decode cX3_areUnlike 3 = .ok (.istore 4, 2) := by decide +kernel
theorem dX3_areUnlike_5 : decode cX3_areUnlike 5 = .ok (.iload 4, 2) := by decide +kernel
theorem dX3_areUnlike_7 : decode cX3_areUnlike 7 = .ok (.aload_n 0, 1) := by decide +kernel
theorem dX3_areUnlike_8 : decode cX3_areUnlike 8 = .ok (.getfield 18, 3) := by decide +kernel
theorem dX3_areUnlike_11 : decode cX3_areUnlike 11 = .ok (.iload_n 1, 1) := by decide +kernel
theorem dX3_areUnlike_12 : decode cX3_areUnlike 12 = .ok (.iaload, 1) := by decide +kernel
theorem dX3_areUnlike_13 : decode cX3_areUnlike 13 = .ok (.if_icmp .ge 36, 3) := by decide +kernel
theorem dX3_areUnlike_16 : decode cX3_areUnlike 16 = .ok (.iconst 1, 1) := by decide +kernel
theorem dX3_areUnlike_17 : decode cX3_areUnlike 17 = .ok (.aload_n 2, 1) := by decide +kernel
theorem dX3_areUnlike_18 : decode cX3_areUnlike 18 = .ok (.aload_n 0, 1) := by decide +kernel
theorem dX3_areUnlike_19 : decode cX3_areUnlike 19 = .ok (.iload_n 1, 1) := by decide +kernel
theorem dX3_areUnlike_20 : decode cX3_areUnlike 20 = .ok (.iload 4, 2) := by decide +kernel
theorem dX3_areUnlike_22 : decode cX3_areUnlike 22 = .ok (.invokevirtual 37, 3) := by decide +kernel
theorem dX3_areUnlike_25 : decode cX3_areUnlike 25 = .ok (.iaload, 1) := by decide +kernel
theorem dX3_areUnlike_26 : decode cX3_areUnlike 26 = .ok (.ishl, 1) := by decide +kernel
theorem dX3_areUnlike_27 : decode cX3_areUnlike 27 = .ok (.istore 5, 2) := by decide +kernel
theorem dX3_areUnlike_29 : decode cX3_areUnlike 29 = .ok (.iload_n 3, 1) := by decide +kernel
theorem dX3_areUnlike_30 : decode cX3_areUnlike 30 = .ok (.iload 5, 2) := by decide +kernel
theorem dX3_areUnlike_32 : decode cX3_areUnlike 32 = .ok (.iand, 1) := by decide +kernel
theorem dX3_areUnlike_33 : decode cX3_areUnlike 33 = .ok (.ifCond .eq 5, 3) := by decide +kernel
theorem dX3_areUnlike_36 : decode cX3_areUnlike 36 = .ok (.iconst 0, 1) := by decide +kernel
theorem dX3_areUnlike_37 : decode cX3_areUnlike 37 = .ok (.ireturn, 1) := by decide +kernel
theorem dX3_areUnlike_38 : decode cX3_areUnlike 38 = .ok (.iload_n 3, 1) := by decide +kernel
theorem dX3_areUnlike_39 : decode cX3_areUnlike 39 = .ok (.iload 5, 2) := by decide +kernel
theorem dX3_areUnlike_41 : decode cX3_areUnlike 41 = .ok (.ior, 1) := by decide +kernel
theorem dX3_areUnlike_42 : decode cX3_areUnlike 42 = .ok (.istore_n 3, 1) := by decide +kernel
theorem dX3_areUnlike_43 : decode cX3_areUnlike 43 = .ok (.iinc 4 1, 3) := by decide +kernel
theorem dX3_areUnlike_46 : decode cX3_areUnlike 46 = .ok (.goto (-41), 3) := by decide +kernel
theorem dX3_areUnlike_49 : decode cX3_areUnlike 49 = .ok (.iconst 1, 1) := by decide +kernel
theorem dX3_areUnlike_50 : decode cX3_areUnlike 50 = .ok (.ireturn, 1) := by decide +kernel
set_option maxRecDepth 20000 in
theorem ggX3_sum_X3_cellAt : GoodIn wsX3_sum wsX3_cellAt := goodIn_r _ [6, 7, 8, 9, 10, 11, 12, 13, 14] (by decide +kernel) (by decide +kernel)
set_option maxRecDepth 20000 in
theorem gX3_sum_X3_cellAt : GoodIn wsX3_sum (wsV RX3 37 RX3 yX3_cellAt wsX3_cellAt) := goodIn_app (goodIn_of _ (by decide +kernel)) ggX3_sum_X3_cellAt
theorem dX3_sum_0 : decode cX3_sum 0 = .ok (.iconst 0, 1) := by decide +kernel
theorem dX3_sum_1 : decode cX3_sum 1 = .ok (.istore_n 3, 1) := by decide +kernel
theorem dX3_sum_2 : decode cX3_sum 2 = .ok (.iconst 0, 1) := by decide +kernel
theorem dX3_sum_3 : decode cX3_sum 3 = .ok (.istore 4, 2) := by decide +kernel
theorem dX3_sum_5 : decode cX3_sum 5 = .ok (.iload 4, 2) := by decide +kernel
theorem dX3_sum_7 : decode cX3_sum 7 = .ok (.aload_n 0, 1) := by decide +kernel
theorem dX3_sum_8 : decode cX3_sum 8 = .ok (.getfield 18, 3) := by decide +kernel
theorem dX3_sum_11 : decode cX3_sum 11 = .ok (.iload_n 1, 1) := by decide +kernel
theorem dX3_sum_12 : decode cX3_sum 12 = .ok (.iaload, 1) := by decide +kernel
theorem dX3_sum_13 : decode cX3_sum 13 = .ok (.if_icmp .ge 21, 3) := by decide +kernel
theorem dX3_sum_16 : decode cX3_sum 16 = .ok (.iload_n 3, 1) := by decide +kernel
theorem dX3_sum_17 : decode cX3_sum 17 = .ok (.aload_n 2, 1) := by decide +kernel
theorem dX3_sum_18 : decode cX3_sum 18 = .ok (.aload_n 0, 1) := by decide +kernel
theorem dX3_sum_19 : decode cX3_sum 19 = .ok (.iload_n 1, 1) := by decide +kernel
theorem dX3_sum_20 : decode cX3_sum 20 = .ok (.iload 4, 2) := by decide +kernel
theorem dX3_sum_22 : decode cX3_sum 22 = .ok (.invokevirtual 37, 3) := by decide +kernel
theorem dX3_sum_25 : decode cX3_sum 25 = .ok (.iaload, 1) := by decide +kernel
theorem dX3_sum_26 : decode cX3_sum 26 = .ok (.iadd, 1) := by decide +kernel
theorem dX3_sum_27 : decode cX3_sum 27 = .ok (.istore_n 3, 1) := by decide +kernel
theorem dX3_sum_28 : decode cX3_sum 28 = .ok (.iinc 4 1, 3) := by decide +kernel
theorem dX3_sum_31 : decode cX3_sum 31 = .ok (.goto (-26), 3) := by decide +kernel
theorem dX3_sum_34 : decode cX3_sum 34 = .ok (.iload_n 3, 1) := by decide +kernel
theorem dX3_sum_35 : decode cX3_sum 35 = .ok (.ireturn, 1) := by decide +kernel
set_option maxRecDepth 20000 in
theorem ggX3_rise_X3_cellAt : GoodIn wsX3_rise wsX3_cellAt := goodIn_r _ [6, 7, 8, 9, 10, 11, 12, 13, 14] (by decide +kernel) (by decide +kernel)
set_option maxRecDepth 20000 in
theorem gX3_rise_X3_cellAt : GoodIn wsX3_rise (wsV RX3 37 RX3 yX3_cellAt wsX3_cellAt) := goodIn_app (goodIn_of _ (by decide +kernel)) ggX3_rise_X3_cellAt
theorem dX3_rise_0 : decode cX3_rise 0 = .ok (.iconst 1, 1) := by decide +kernel
theorem dX3_rise_1 : decode cX3_rise 1 = .ok (.istore_n 3, 1) := by decide +kernel
theorem dX3_rise_2 : decode cX3_rise 2 = .ok (.iload_n 3, 1) := by decide +kernel
theorem dX3_rise_3 : decode cX3_rise 3 = .ok (.aload_n 0, 1) := by decide +kernel
theorem dX3_rise_4 : decode cX3_rise 4 = .ok (.getfield 18, 3) := by decide +kernel
theorem dX3_rise_7 : decode cX3_rise 7 = .ok (.iload_n 1, 1) := by decide +kernel
theorem dX3_rise_8 : decode cX3_rise 8 = .ok (.iaload, 1) := by decide +kernel
theorem dX3_rise_9 : decode cX3_rise 9 = .ok (.if_icmp .ge 32, 3) := by decide +kernel
theorem dX3_rise_12 : decode cX3_rise 12 = .ok (.aload_n 2, 1) := by decide +kernel
theorem dX3_rise_13 : decode cX3_rise 13 = .ok (.aload_n 0, 1) := by decide +kernel
theorem dX3_rise_14 : decode cX3_rise 14 = .ok (.iload_n 1, 1) := by decide +kernel
theorem dX3_rise_15 : decode cX3_rise 15 = .ok (.iload_n 3, 1) := by decide +kernel
theorem dX3_rise_16 : decode cX3_rise 16 = .ok (.invokevirtual 37, 3) := by decide +kernel
theorem dX3_rise_19 : decode cX3_rise 19 = .ok (.iaload, 1) := by decide +kernel
theorem dX3_rise_20 : decode cX3_rise 20 = .ok (.aload_n 2, 1) := by decide +kernel
theorem dX3_rise_21 : decode cX3_rise 21 = .ok (.aload_n 0, 1) := by decide +kernel
theorem dX3_rise_22 : decode cX3_rise 22 = .ok (.iload_n 1, 1) := by decide +kernel
theorem dX3_rise_23 : decode cX3_rise 23 = .ok (.iload_n 3, 1) := by decide +kernel
theorem dX3_rise_24 : decode cX3_rise 24 = .ok (.iconst 1, 1) := by decide +kernel
theorem dX3_rise_25 : decode cX3_rise 25 = .ok (.isub, 1) := by decide +kernel
theorem dX3_rise_26 : decode cX3_rise 26 = .ok (.invokevirtual 37, 3) := by decide +kernel
theorem dX3_rise_29 : decode cX3_rise 29 = .ok (.iaload, 1) := by decide +kernel
theorem dX3_rise_30 : decode cX3_rise 30 = .ok (.if_icmp .gt 5, 3) := by decide +kernel
theorem dX3_rise_33 : decode cX3_rise 33 = .ok (.iconst 0, 1) := by decide +kernel
theorem dX3_rise_34 : decode cX3_rise 34 = .ok (.ireturn, 1) := by decide +kernel
theorem dX3_rise_35 : decode cX3_rise 35 = .ok (.iinc 3 1, 3) := by decide +kernel
theorem dX3_rise_38 : decode cX3_rise 38 = .ok (.goto (-36), 3) := by decide +kernel
theorem dX3_rise_41 : decode cX3_rise 41 = .ok (.iconst 1, 1) := by decide +kernel
theorem dX3_rise_42 : decode cX3_rise 42 = .ok (.ireturn, 1) := by decide +kernel
set_option maxRecDepth 20000 in
theorem ggX3_likeTheFirst_X3_cellAt : GoodIn wsX3_likeTheFirst wsX3_cellAt := goodIn_r _ [6, 7, 8, 9, 10, 11, 12, 13, 14] (by decide +kernel) (by decide +kernel)
set_option maxRecDepth 20000 in
theorem gX3_likeTheFirst_X3_cellAt : GoodIn wsX3_likeTheFirst (wsV RX3 37 RX3 yX3_cellAt wsX3_cellAt) := goodIn_app (goodIn_of _ (by decide +kernel)) ggX3_likeTheFirst_X3_cellAt
theorem dX3_likeTheFirst_0 : decode cX3_likeTheFirst 0 = .ok (.aload_n 2, 1) := by decide +kernel
theorem dX3_likeTheFirst_1 : decode cX3_likeTheFirst 1 = .ok (.aload_n 0, 1) := by decide +kernel
theorem dX3_likeTheFirst_2 : decode cX3_likeTheFirst 2 = .ok (.iload_n 1, 1) := by decide +kernel
theorem dX3_likeTheFirst_3 : decode cX3_likeTheFirst 3 = .ok (.iconst 0, 1) := by decide +kernel
theorem dX3_likeTheFirst_4 : decode cX3_likeTheFirst 4 = .ok (.invokevirtual 37, 3) := by decide +kernel
theorem dX3_likeTheFirst_7 : decode cX3_likeTheFirst 7 = .ok (.iaload, 1) := by decide +kernel
theorem dX3_likeTheFirst_8 : decode cX3_likeTheFirst 8 = .ok (.istore_n 3, 1) := by decide +kernel
theorem dX3_likeTheFirst_9 : decode cX3_likeTheFirst 9 = .ok (.iconst 0, 1) := by decide +kernel
theorem dX3_likeTheFirst_10 : decode cX3_likeTheFirst 10 = .ok (.istore 4, 2) := by decide +kernel
theorem dX3_likeTheFirst_12 : decode cX3_likeTheFirst 12 = .ok (.iconst 0, 1) := by decide +kernel
theorem dX3_likeTheFirst_13 : decode cX3_likeTheFirst 13 = .ok (.istore 5, 2) := by decide +kernel
theorem dX3_likeTheFirst_15 : decode cX3_likeTheFirst 15 = .ok (.iload 5, 2) := by decide +kernel
theorem dX3_likeTheFirst_17 : decode cX3_likeTheFirst 17 = .ok (.aload_n 0, 1) := by decide +kernel
theorem dX3_likeTheFirst_18 : decode cX3_likeTheFirst 18 = .ok (.getfield 18, 3) := by decide +kernel
theorem dX3_likeTheFirst_21 : decode cX3_likeTheFirst 21 = .ok (.iload_n 1, 1) := by decide +kernel
theorem dX3_likeTheFirst_22 : decode cX3_likeTheFirst 22 = .ok (.iaload, 1) := by decide +kernel
theorem dX3_likeTheFirst_23 : decode cX3_likeTheFirst 23 = .ok (.if_icmp .ge 25, 3) := by decide +kernel
theorem dX3_likeTheFirst_26 : decode cX3_likeTheFirst 26 = .ok (.aload_n 2, 1) := by decide +kernel
theorem dX3_likeTheFirst_27 : decode cX3_likeTheFirst 27 = .ok (.aload_n 0, 1) := by decide +kernel
theorem dX3_likeTheFirst_28 : decode cX3_likeTheFirst 28 = .ok (.iload_n 1, 1) := by decide +kernel
theorem dX3_likeTheFirst_29 : decode cX3_likeTheFirst 29 = .ok (.iload 5, 2) := by decide +kernel
theorem dX3_likeTheFirst_31 : decode cX3_likeTheFirst 31 = .ok (.invokevirtual 37, 3) := by decide +kernel
theorem dX3_likeTheFirst_34 : decode cX3_likeTheFirst 34 = .ok (.iaload, 1) := by decide +kernel
theorem dX3_likeTheFirst_35 : decode cX3_likeTheFirst 35 = .ok (.iload_n 3, 1) := by decide +kernel
theorem dX3_likeTheFirst_36 : decode cX3_likeTheFirst 36 = .ok (.if_icmp .ne 6, 3) := by decide +kernel
theorem dX3_likeTheFirst_39 : decode cX3_likeTheFirst 39 = .ok (.iinc 4 1, 3) := by decide +kernel
theorem dX3_likeTheFirst_42 : decode cX3_likeTheFirst 42 = .ok (.iinc 5 1, 3) := by decide +kernel
theorem dX3_likeTheFirst_45 : decode cX3_likeTheFirst 45 = .ok (.goto (-30), 3) := by decide +kernel
theorem dX3_likeTheFirst_48 : decode cX3_likeTheFirst 48 = .ok (.iload 4, 2) := by decide +kernel
theorem dX3_likeTheFirst_50 : decode cX3_likeTheFirst 50 = .ok (.ireturn, 1) := by decide +kernel
set_option maxRecDepth 20000 in
theorem ggX3_cellsWithOne_X3_cellAt : GoodIn wsX3_cellsWithOne wsX3_cellAt := goodIn_r _ [6, 7, 8, 9, 10, 11, 12, 13, 14] (by decide +kernel) (by decide +kernel)
set_option maxRecDepth 20000 in
theorem gX3_cellsWithOne_X3_cellAt : GoodIn wsX3_cellsWithOne (wsV RX3 37 RX3 yX3_cellAt wsX3_cellAt) := goodIn_app (goodIn_of _ (by decide +kernel)) ggX3_cellsWithOne_X3_cellAt
theorem dX3_cellsWithOne_0 : decode cX3_cellsWithOne 0 = .ok (.iconst 0, 1) := by decide +kernel
theorem dX3_cellsWithOne_1 : decode cX3_cellsWithOne 1 = .ok (.istore_n 3, 1) := by decide +kernel
theorem dX3_cellsWithOne_2 : decode cX3_cellsWithOne 2 = .ok (.iconst 0, 1) := by decide +kernel
theorem dX3_cellsWithOne_3 : decode cX3_cellsWithOne 3 = .ok (.istore 4, 2) := by decide +kernel
theorem dX3_cellsWithOne_5 : decode cX3_cellsWithOne 5 = .ok (.iload 4, 2) := by decide +kernel
theorem dX3_cellsWithOne_7 : decode cX3_cellsWithOne 7 = .ok (.aload_n 0, 1) := by decide +kernel
theorem dX3_cellsWithOne_8 : decode cX3_cellsWithOne 8 = .ok (.getfield 18, 3) := by decide +kernel
theorem dX3_cellsWithOne_11 : decode cX3_cellsWithOne 11 = .ok (.iload_n 1, 1) := by decide +kernel
theorem dX3_cellsWithOne_12 : decode cX3_cellsWithOne 12 = .ok (.iaload, 1) := by decide +kernel
theorem dX3_cellsWithOne_13 : decode cX3_cellsWithOne 13 = .ok (.if_icmp .ge 33, 3) := by decide +kernel
theorem dX3_cellsWithOne_16 : decode cX3_cellsWithOne 16 = .ok (.aload_n 0, 1) := by decide +kernel
theorem dX3_cellsWithOne_17 : decode cX3_cellsWithOne 17 = .ok (.iload_n 1, 1) := by decide +kernel
theorem dX3_cellsWithOne_18 : decode cX3_cellsWithOne 18 = .ok (.iload 4, 2) := by decide +kernel
theorem dX3_cellsWithOne_20 : decode cX3_cellsWithOne 20 = .ok (.invokevirtual 37, 3) := by decide +kernel
theorem dX3_cellsWithOne_23 : decode cX3_cellsWithOne 23 = .ok (.istore 5, 2) := by decide +kernel
theorem dX3_cellsWithOne_25 : decode cX3_cellsWithOne 25 = .ok (.aload_n 2, 1) := by decide +kernel
theorem dX3_cellsWithOne_26 : decode cX3_cellsWithOne 26 = .ok (.iload 5, 2) := by decide +kernel
theorem dX3_cellsWithOne_28 : decode cX3_cellsWithOne 28 = .ok (.iaload, 1) := by decide +kernel
theorem dX3_cellsWithOne_29 : decode cX3_cellsWithOne 29 = .ok (.iconst 1, 1) := by decide +kernel
theorem dX3_cellsWithOne_30 : decode cX3_cellsWithOne 30 = .ok (.if_icmp .ne 10, 3) := by decide +kernel
theorem dX3_cellsWithOne_33 : decode cX3_cellsWithOne 33 = .ok (.iload_n 3, 1) := by decide +kernel
theorem dX3_cellsWithOne_34 : decode cX3_cellsWithOne 34 = .ok (.iconst 1, 1) := by decide +kernel
theorem dX3_cellsWithOne_35 : decode cX3_cellsWithOne 35 = .ok (.iload 5, 2) := by decide +kernel
theorem dX3_cellsWithOne_37 : decode cX3_cellsWithOne 37 = .ok (.ishl, 1) := by decide +kernel
theorem dX3_cellsWithOne_38 : decode cX3_cellsWithOne 38 = .ok (.ior, 1) := by decide +kernel
theorem dX3_cellsWithOne_39 : decode cX3_cellsWithOne 39 = .ok (.istore_n 3, 1) := by decide +kernel
theorem dX3_cellsWithOne_40 : decode cX3_cellsWithOne 40 = .ok (.iinc 4 1, 3) := by decide +kernel
theorem dX3_cellsWithOne_43 : decode cX3_cellsWithOne 43 = .ok (.goto (-38), 3) := by decide +kernel
theorem dX3_cellsWithOne_46 : decode cX3_cellsWithOne 46 = .ok (.iload_n 3, 1) := by decide +kernel
theorem dX3_cellsWithOne_47 : decode cX3_cellsWithOne 47 = .ok (.ireturn, 1) := by decide +kernel
set_option maxRecDepth 20000 in
theorem ggX3_canBeTried_X0_symbols : GoodIn wsX3_canBeTried wsX0_symbols := goodIn_r _ [7, 8, 16, 17, 18, 19, 20] (by decide +kernel) (by decide +kernel)
set_option maxRecDepth 20000 in
theorem gX3_canBeTried_X0_symbols : GoodIn wsX3_canBeTried (wsV RX3 62 RX0 yX0_symbols wsX0_symbols) := goodIn_app (goodIn_of _ (by decide +kernel)) ggX3_canBeTried_X0_symbols
theorem dX3_canBeTried_0 : decode cX3_canBeTried 0 = .ok (.iconst 1, 1) := by decide +kernel
theorem dX3_canBeTried_1 : decode cX3_canBeTried 1 = .ok (.istore_n 2, 1) := by decide +kernel
theorem dX3_canBeTried_2 : decode cX3_canBeTried 2 = .ok (.iconst 0, 1) := by decide +kernel
theorem dX3_canBeTried_3 : decode cX3_canBeTried 3 = .ok (.istore_n 3, 1) := by decide +kernel
theorem dX3_canBeTried_4 : decode cX3_canBeTried 4 = .ok (.iload_n 3, 1) := by decide +kernel
theorem dX3_canBeTried_5 : decode cX3_canBeTried 5 = .ok (.aload_n 0, 1) := by decide +kernel
theorem dX3_canBeTried_6 : decode cX3_canBeTried 6 = .ok (.getfield 18, 3) := by decide +kernel
theorem dX3_canBeTried_9 : decode cX3_canBeTried 9 = .ok (.iload_n 1, 1) := by decide +kernel
theorem dX3_canBeTried_10 : decode cX3_canBeTried 10 = .ok (.iaload, 1) := by decide +kernel
theorem dX3_canBeTried_11 : decode cX3_canBeTried 11 = .ok (.if_icmp .ge 19, 3) := by decide +kernel
theorem dX3_canBeTried_14 : decode cX3_canBeTried 14 = .ok (.iload_n 2, 1) := by decide +kernel
theorem dX3_canBeTried_15 : decode cX3_canBeTried 15 = .ok (.aload_n 0, 1) := by decide +kernel
theorem dX3_canBeTried_16 : decode cX3_canBeTried 16 = .ok (.getfield 33, 3) := by decide +kernel
theorem dX3_canBeTried_19 : decode cX3_canBeTried 19 = .ok (.invokevirtual 62, 3) := by decide +kernel
theorem dX3_canBeTried_22 : decode cX3_canBeTried 22 = .ok (.imul, 1) := by decide +kernel
theorem dX3_canBeTried_23 : decode cX3_canBeTried 23 = .ok (.istore_n 2, 1) := by decide +kernel
theorem dX3_canBeTried_24 : decode cX3_canBeTried 24 = .ok (.iinc 3 1, 3) := by decide +kernel
theorem dX3_canBeTried_27 : decode cX3_canBeTried 27 = .ok (.goto (-23), 3) := by decide +kernel
theorem dX3_canBeTried_30 : decode cX3_canBeTried 30 = .ok (.iload_n 2, 1) := by decide +kernel
theorem dX3_canBeTried_31 : decode cX3_canBeTried 31 = .ok (.sipush 4096, 3) := by decide +kernel
theorem dX3_canBeTried_34 : decode cX3_canBeTried 34 = .ok (.if_icmp .gt 7, 3) := by decide +kernel
theorem dX3_canBeTried_37 : decode cX3_canBeTried 37 = .ok (.iconst 1, 1) := by decide +kernel
theorem dX3_canBeTried_38 : decode cX3_canBeTried 38 = .ok (.goto 4, 3) := by decide +kernel
theorem dX3_canBeTried_41 : decode cX3_canBeTried 41 = .ok (.iconst 0, 1) := by decide +kernel
theorem dX3_canBeTried_42 : decode cX3_canBeTried 42 = .ok (.ireturn, 1) := by decide +kernel
set_option maxRecDepth 20000 in
theorem ggX3_canBeMet_X3_meets : GoodIn wsX3_canBeMet wsX3_meets := goodIn_r _ [8, 9, 10, 1, 3, 11, 12, 13, 7, 14, 15, 16, 17, 18, 19, 20, 21, 22, 23, 24, 25, 26, 27, 28, 29, 30, 31, 32, 33, 34, 35, 36, 37, 38, 39, 40, 41, 42, 43, 44, 45, 46, 47, 48, 63, 64, 65, 66, 67, 68, 69, 70, 71, 72, 73, 74] (by decide +kernel) (by decide +kernel)
set_option maxRecDepth 20000 in
theorem gX3_canBeMet_X3_meets : GoodIn wsX3_canBeMet (wsV RX3 66 RX3 yX3_meets wsX3_meets) := goodIn_app (goodIn_of _ (by decide +kernel)) ggX3_canBeMet_X3_meets
set_option maxRecDepth 20000 in
theorem ggX3_canBeMet_X3_cellAt : GoodIn wsX3_canBeMet wsX3_cellAt := goodIn_r _ [18, 19, 63, 64, 65, 66, 67, 68, 69] (by decide +kernel) (by decide +kernel)
set_option maxRecDepth 20000 in
theorem gX3_canBeMet_X3_cellAt : GoodIn wsX3_canBeMet (wsV RX3 37 RX3 yX3_cellAt wsX3_cellAt) := goodIn_app (goodIn_of _ (by decide +kernel)) ggX3_canBeMet_X3_cellAt
set_option maxRecDepth 20000 in
theorem ggX3_canBeMet_X4_symbolsOf : GoodIn wsX3_canBeMet wsX4_symbolsOf := goodIn_r _ [53, 54, 75, 76, 77, 78] (by decide +kernel) (by decide +kernel)
set_option maxRecDepth 20000 in
theorem gX3_canBeMet_X4_symbolsOf : GoodIn wsX3_canBeMet (wsV RX3 69 RX4 yX4_symbolsOf wsX4_symbolsOf) := goodIn_app (goodIn_of _ (by decide +kernel)) ggX3_canBeMet_X4_symbolsOf
set_option maxRecDepth 20000 in
theorem ggX3_canBeMet_X0_symbols : GoodIn wsX3_canBeMet wsX0_symbols := goodIn_r _ [58, 59, 70, 71, 72, 73, 74] (by decide +kernel) (by decide +kernel)
set_option maxRecDepth 20000 in
theorem gX3_canBeMet_X0_symbols : GoodIn wsX3_canBeMet (wsV RX3 62 RX0 yX0_symbols wsX0_symbols) := goodIn_app (goodIn_of _ (by decide +kernel)) ggX3_canBeMet_X0_symbols
set_option maxRecDepth 20000 in
theorem ggX3_canBeMet_X3_canBeMet : GoodIn wsX3_canBeMet wsX3_canBeMet := goodIn_r _ [0, 1, 2, 3, 4, 5, 6, 7, 8, 9, 10, 11, 12, 13, 14, 15, 16, 17, 18, 19, 20, 21, 22, 23, 24, 25, 26, 27, 28, 29, 30, 31, 32, 33, 34, 35, 36, 37, 38, 39, 40, 41, 42, 43, 44, 45, 46, 47, 48, 49, 50, 51, 52, 53, 54, 55, 56, 57, 58, 59, 60, 61, 62, 63, 64, 65, 66, 67, 68, 69, 70, 71, 72, 73, 74, 75, 76, 77, 78] (by decide +kernel) (by decide +kernel)
set_option maxRecDepth 20000 in
theorem gX3_canBeMet_X3_canBeMet : GoodIn wsX3_canBeMet (wsV RX3 75 RX3 yX3_canBeMet wsX3_canBeMet) := goodIn_app (goodIn_of _ (by decide +kernel)) ggX3_canBeMet_X3_canBeMet
theorem dX3_canBeMet_0 : decode cX3_canBeMet 0 = .ok (.iload_n 3, 1) := by decide +kernel
theorem dX3_canBeMet_1 : decode cX3_canBeMet 1 = .ok (.aload_n 0, 1) := by decide +kernel
theorem dX3_canBeMet_2 : decode cX3_canBeMet 2 = .ok (.getfield 18, 3) := by decide +kernel
theorem dX3_canBeMet_5 : decode cX3_canBeMet 5 = .ok (.iload_n 1, 1) := by decide +kernel
theorem dX3_canBeMet_6 : decode cX3_canBeMet 6 = .ok (.iaload, 1) := by decide +kernel
theorem dX3_canBeMet_7 : decode cX3_canBeMet 7 = .ok (.if_icmp .lt 13, 3) := by decide +kernel
theorem dX3_canBeMet_10 : decode cX3_canBeMet 10 = .ok (.aload_n 0, 1) := by decide +kernel
theorem dX3_canBeMet_11 : decode cX3_canBeMet 11 = .ok (.iload_n 1, 1) := by decide +kernel
theorem dX3_canBeMet_12 : decode cX3_canBeMet 12 = .ok (.aload_n 0, 1) := by decide +kernel
theorem dX3_canBeMet_13 : decode cX3_canBeMet 13 = .ok (.getfield 26, 3) := by decide +kernel
theorem dX3_canBeMet_16 : decode cX3_canBeMet 16 = .ok (.invokevirtual 66, 3) := by decide +kernel
theorem dX3_canBeMet_19 : decode cX3_canBeMet 19 = .ok (.ireturn, 1) := by decide +kernel
theorem dX3_canBeMet_20 : decode cX3_canBeMet 20 = .ok (.aload_n 0, 1) := by decide +kernel
theorem dX3_canBeMet_21 : decode cX3_canBeMet 21 = .ok (.iload_n 1, 1) := by decide +kernel
theorem dX3_canBeMet_22 : decode cX3_canBeMet 22 = .ok (.iload_n 3, 1) := by decide +kernel
theorem dX3_canBeMet_23 : decode cX3_canBeMet 23 = .ok (.invokevirtual 37, 3) := by decide +kernel
theorem dX3_canBeMet_26 : decode cX3_canBeMet 26 = .ok (.istore 4, 2) := by decide +kernel
theorem dX3_canBeMet_28 : decode cX3_canBeMet 28 = .ok (.aload_n 2, 1) := by decide +kernel
theorem dX3_canBeMet_29 : decode cX3_canBeMet 29 = .ok (.iload 4, 2) := by decide +kernel
theorem dX3_canBeMet_31 : decode cX3_canBeMet 31 = .ok (.invokevirtual 69, 3) := by decide +kernel
theorem dX3_canBeMet_34 : decode cX3_canBeMet 34 = .ok (.istore 5, 2) := by decide +kernel
theorem dX3_canBeMet_36 : decode cX3_canBeMet 36 = .ok (.iconst 0, 1) := by decide +kernel
theorem dX3_canBeMet_37 : decode cX3_canBeMet 37 = .ok (.istore 6, 2) := by decide +kernel
theorem dX3_canBeMet_39 : decode cX3_canBeMet 39 = .ok (.iload 6, 2) := by decide +kernel
theorem dX3_canBeMet_41 : decode cX3_canBeMet 41 = .ok (.aload_n 0, 1) := by decide +kernel
theorem dX3_canBeMet_42 : decode cX3_canBeMet 42 = .ok (.getfield 33, 3) := by decide +kernel
theorem dX3_canBeMet_45 : decode cX3_canBeMet 45 = .ok (.invokevirtual 62, 3) := by decide +kernel
theorem dX3_canBeMet_48 : decode cX3_canBeMet 48 = .ok (.if_icmp .ge 42, 3) := by decide +kernel
theorem dX3_canBeMet_51 : decode cX3_canBeMet 51 = .ok (.iload 5, 2) := by decide +kernel
theorem dX3_canBeMet_53 : decode cX3_canBeMet 53 = .ok (.iconst 1, 1) := by decide +kernel
theorem dX3_canBeMet_54 : decode cX3_canBeMet 54 = .ok (.iload 6, 2) := by decide +kernel
theorem dX3_canBeMet_56 : decode cX3_canBeMet 56 = .ok (.ishl, 1) := by decide +kernel
theorem dX3_canBeMet_57 : decode cX3_canBeMet 57 = .ok (.iand, 1) := by decide +kernel
theorem dX3_canBeMet_58 : decode cX3_canBeMet 58 = .ok (.ifCond .eq 26, 3) := by decide +kernel
theorem dX3_canBeMet_61 : decode cX3_canBeMet 61 = .ok (.aload_n 0, 1) := by decide +kernel
theorem dX3_canBeMet_62 : decode cX3_canBeMet 62 = .ok (.getfield 26, 3) := by decide +kernel
theorem dX3_canBeMet_65 : decode cX3_canBeMet 65 = .ok (.iload 4, 2) := by decide +kernel
theorem dX3_canBeMet_67 : decode cX3_canBeMet 67 = .ok (.iload 6, 2) := by decide +kernel
theorem dX3_canBeMet_69 : decode cX3_canBeMet 69 = .ok (.iastore, 1) := by decide +kernel
theorem dX3_canBeMet_70 : decode cX3_canBeMet 70 = .ok (.aload_n 0, 1) := by decide +kernel
theorem dX3_canBeMet_71 : decode cX3_canBeMet 71 = .ok (.iload_n 1, 1) := by decide +kernel
theorem dX3_canBeMet_72 : decode cX3_canBeMet 72 = .ok (.aload_n 2, 1) := by decide +kernel
theorem dX3_canBeMet_73 : decode cX3_canBeMet 73 = .ok (.iload_n 3, 1) := by decide +kernel
theorem dX3_canBeMet_74 : decode cX3_canBeMet 74 = .ok (.iconst 1, 1) := by decide +kernel
theorem dX3_canBeMet_75 : decode cX3_canBeMet 75 = .ok (.iadd, 1) := by decide +kernel
theorem dX3_canBeMet_76 : decode cX3_canBeMet 76 = .ok (.invokevirtual 75, 3) := by decide +kernel
theorem dX3_canBeMet_79 : decode cX3_canBeMet 79 = .ok (.ifCond .eq 5, 3) := by decide +kernel
theorem dX3_canBeMet_82 : decode cX3_canBeMet 82 = .ok (.iconst 1, 1) := by decide +kernel
theorem dX3_canBeMet_83 : decode cX3_canBeMet 83 = .ok (.ireturn, 1) := by decide +kernel
theorem dX3_canBeMet_84 : decode cX3_canBeMet 84 = .ok (.iinc 6 1, 3) := by decide +kernel
theorem dX3_canBeMet_87 : decode cX3_canBeMet 87 = .ok (.goto (-48), 3) := by decide +kernel
theorem dX3_canBeMet_90 : decode cX3_canBeMet 90 = .ok (.iconst 0, 1) := by decide +kernel
theorem dX3_canBeMet_91 : decode cX3_canBeMet 91 = .ok (.ireturn, 1) := by decide +kernel
end
section
theorem dX4_init_0 : decode cX4_init 0 = .ok (.aload_n 0, 1) := by decide +kernel
theorem dX4_init_1 : decode cX4_init 1 = .ok (.invokespecial 3, 3) := by decide +kernel
theorem dX4_init_4 : decode cX4_init 4 = .ok (.aload_n 0, 1) := by decide +kernel
theorem dX4_init_5 : decode cX4_init 5 = .ok (.bipush 16, 2) := by decide +kernel
theorem dX4_init_7 : decode cX4_init 7 = .ok (.newarray .int, 2) := by decide +kernel
theorem dX4_init_9 : decode cX4_init 9 = .ok (.putfield 11, 3) := by decide +kernel
theorem dX4_init_12 : decode cX4_init 12 = .ok (.aload_n 0, 1) := by decide +kernel
theorem dX4_init_13 : decode cX4_init 13 = .ok (.bipush 16, 2) := by decide +kernel
theorem dX4_init_15 : decode cX4_init 15 = .ok (.newarray .int, 2) := by decide +kernel
theorem dX4_init_17 : decode cX4_init 17 = .ok (.putfield 17, 3) := by decide +kernel
theorem dX4_init_20 : decode cX4_init 20 = .ok (.aload_n 0, 1) := by decide +kernel
theorem dX4_init_21 : decode cX4_init 21 = .ok (.aload_n 1, 1) := by decide +kernel
theorem dX4_init_22 : decode cX4_init 22 = .ok (.putfield 20, 3) := by decide +kernel
theorem dX4_init_25 : decode cX4_init 25 = .ok (.aload_n 0, 1) := by decide +kernel
theorem dX4_init_26 : decode cX4_init 26 = .ok (.aload_n 2, 1) := by decide +kernel
theorem dX4_init_27 : decode cX4_init 27 = .ok (.putfield 24, 3) := by decide +kernel
theorem dX4_init_30 : decode cX4_init 30 = .ok (.return_, 1) := by decide +kernel
theorem dX4_symbolsOf_0 : decode cX4_symbolsOf 0 = .ok (.aload_n 0, 1) := by decide +kernel
theorem dX4_symbolsOf_1 : decode cX4_symbolsOf 1 = .ok (.getfield 11, 3) := by decide +kernel
theorem dX4_symbolsOf_4 : decode cX4_symbolsOf 4 = .ok (.iload_n 1, 1) := by decide +kernel
theorem dX4_symbolsOf_5 : decode cX4_symbolsOf 5 = .ok (.iaload, 1) := by decide +kernel
theorem dX4_symbolsOf_6 : decode cX4_symbolsOf 6 = .ok (.ireturn, 1) := by decide +kernel
set_option maxRecDepth 20000 in
theorem ggX4_startWhole_X0_cells : GoodIn wsX4_startWhole wsX0_cells := goodIn_r _ [7, 8, 18, 19, 20, 21, 22] (by decide +kernel) (by decide +kernel)
set_option maxRecDepth 20000 in
theorem gX4_startWhole_X0_cells : GoodIn wsX4_startWhole (wsV RX4 28 RX0 yX0_cells wsX0_cells) := goodIn_app (goodIn_of _ (by decide +kernel)) ggX4_startWhole_X0_cells
set_option maxRecDepth 20000 in
theorem ggX4_startWhole_X0_allSymbols : GoodIn wsX4_startWhole wsX0_allSymbols := goodIn_r _ [12, 13, 18, 19, 20, 21, 22] (by decide +kernel) (by decide +kernel)
set_option maxRecDepth 20000 in
theorem gX4_startWhole_X0_allSymbols : GoodIn wsX4_startWhole (wsV RX4 32 RX0 yX0_allSymbols wsX0_allSymbols) := goodIn_app (goodIn_of _ (by decide +kernel)) ggX4_startWhole_X0_allSymbols
theorem dX4_startWhole_0 : decode cX4_startWhole 0 = .ok (.iconst 0, 1) := by decide +kernel
theorem dX4_startWhole_1 : decode cX4_startWhole 1 = .ok (.istore_n 1, 1) := by decide +kernel
theorem dX4_startWhole_2 : decode cX4_startWhole 2 = .ok (.iload_n 1, 1) := by decide +kernel
theorem dX4_startWhole_3 : decode cX4_startWhole 3 = .ok (.aload_n 0, 1) := by decide +kernel
theorem dX4_startWhole_4 : decode cX4_startWhole 4 = .ok (.getfield 20, 3) := by decide +kernel
theorem dX4_startWhole_7 : decode cX4_startWhole 7 = .ok (.invokevirtual 28, 3) := by decide +kernel
theorem dX4_startWhole_10 : decode cX4_startWhole 10 = .ok (.if_icmp .ge 22, 3) := by decide +kernel
theorem dX4_startWhole_13 : decode cX4_startWhole 13 = .ok (.aload_n 0, 1) := by decide +kernel
theorem dX4_startWhole_14 : decode cX4_startWhole 14 = .ok (.getfield 11, 3) := by decide +kernel
theorem dX4_startWhole_17 : decode cX4_startWhole 17 = .ok (.iload_n 1, 1) := by decide +kernel
theorem dX4_startWhole_18 : decode cX4_startWhole 18 = .ok (.aload_n 0, 1) := by decide +kernel
theorem dX4_startWhole_19 : decode cX4_startWhole 19 = .ok (.getfield 20, 3) := by decide +kernel
theorem dX4_startWhole_22 : decode cX4_startWhole 22 = .ok (.invokevirtual 32, 3) := by decide +kernel
theorem dX4_startWhole_25 : decode cX4_startWhole 25 = .ok (.iastore, 1) := by decide +kernel
theorem dX4_startWhole_26 : decode cX4_startWhole 26 = .ok (.iinc 1 1, 3) := by decide +kernel
theorem dX4_startWhole_29 : decode cX4_startWhole 29 = .ok (.goto (-27), 3) := by decide +kernel
theorem dX4_startWhole_32 : decode cX4_startWhole 32 = .ok (.return_, 1) := by decide +kernel
set_option maxRecDepth 20000 in
theorem ggX4_turnRound_X4_startWhole : GoodIn wsX4_turnRound wsX4_startWhole := goodIn_r _ [6, 7, 8, 9, 10, 11, 12, 13, 14, 15, 16, 17, 18, 19, 44, 45, 46, 47, 48, 49, 50, 51, 52] (by decide +kernel) (by decide +kernel)
set_option maxRecDepth 20000 in
theorem gX4_turnRound_X4_startWhole : GoodIn wsX4_turnRound (wsV RX4 35 RX4 yX4_startWhole wsX4_startWhole) := goodIn_app (goodIn_of _ (by decide +kernel)) ggX4_turnRound_X4_startWhole
set_option maxRecDepth 20000 in
theorem ggX4_turnRound_X1_sizeOf : GoodIn wsX4_turnRound wsX1_sizeOf := goodIn_r _ [24, 25, 53, 54, 55, 56, 57] (by decide +kernel) (by decide +kernel)
set_option maxRecDepth 20000 in
theorem gX4_turnRound_X1_sizeOf : GoodIn wsX4_turnRound (wsV RX4 38 RX1 yX1_sizeOf wsX1_sizeOf) := goodIn_app (goodIn_of _ (by decide +kernel)) ggX4_turnRound_X1_sizeOf
set_option maxRecDepth 20000 in
theorem ggX4_turnRound_X1_literalAt : GoodIn wsX4_turnRound wsX1_literalAt := goodIn_r _ [29, 30, 53, 54, 55, 56, 57] (by decide +kernel) (by decide +kernel)
set_option maxRecDepth 20000 in
theorem gX4_turnRound_X1_literalAt : GoodIn wsX4_turnRound (wsV RX4 44 RX1 yX1_literalAt wsX1_literalAt) := goodIn_app (goodIn_of _ (by decide +kernel)) ggX4_turnRound_X1_literalAt
set_option maxRecDepth 20000 in
theorem ggX4_turnRound_X1_saysIs : GoodIn wsX4_turnRound wsX1_saysIs := goodIn_r _ [33] (by decide +kernel) (by decide +kernel)
set_option maxRecDepth 20000 in
theorem gX4_turnRound_X1_saysIs : GoodIn wsX4_turnRound (va_wsS RX4 48 yX1_saysIs wsX1_saysIs) := goodIn_app (goodIn_of _ (by decide +kernel)) ggX4_turnRound_X1_saysIs
set_option maxRecDepth 20000 in
theorem ggX4_turnRound_X4_narrow : GoodIn wsX4_turnRound wsX4_narrow := goodIn_r _ [37, 8, 38, 39, 23, 40, 41, 42, 43, 44, 45, 46, 47] (by decide +kernel) (by decide +kernel)
set_option maxRecDepth 20000 in
theorem gX4_turnRound_X4_narrow : GoodIn wsX4_turnRound (wsV RX4 52 RX4 yX4_narrow wsX4_narrow) := goodIn_app (goodIn_of _ (by decide +kernel)) ggX4_turnRound_X4_narrow
theorem dX4_turnRound_0 : decode cX4_turnRound 0 = .ok (.aload_n 0, 1) := by decide +kernel
theorem dX4_turnRound_1 : decode cX4_turnRound 1 = .ok (.invokevirtual 35, 3) := by decide +kernel
theorem dX4_turnRound_4 : decode cX4_turnRound 4 = .ok (.iconst 0, 1) := by decide +kernel
theorem dX4_turnRound_5 : decode cX4_turnRound 5 = .ok (.istore_n 2, 1) := by decide +kernel
theorem dX4_turnRound_6 : decode cX4_turnRound 6 = .ok (.iload_n 2, 1) := by decide +kernel
theorem dX4_turnRound_7 : decode cX4_turnRound 7 = .ok (.aload_n 0, 1) := by decide +kernel
theorem dX4_turnRound_8 : decode cX4_turnRound 8 = .ok (.getfield 24, 3) := by decide +kernel
theorem dX4_turnRound_11 : decode cX4_turnRound 11 = .ok (.iload_n 1, 1) := by decide +kernel
theorem dX4_turnRound_12 : decode cX4_turnRound 12 = .ok (.invokevirtual 38, 3) := by decide +kernel
theorem dX4_turnRound_15 : decode cX4_turnRound 15 = .ok (.if_icmp .ge 36, 3) := by decide +kernel
theorem dX4_turnRound_18 : decode cX4_turnRound 18 = .ok (.aload_n 0, 1) := by decide +kernel
theorem dX4_turnRound_19 : decode cX4_turnRound 19 = .ok (.getfield 24, 3) := by decide +kernel
theorem dX4_turnRound_22 : decode cX4_turnRound 22 = .ok (.iload_n 1, 1) := by decide +kernel
theorem dX4_turnRound_23 : decode cX4_turnRound 23 = .ok (.iload_n 2, 1) := by decide +kernel
theorem dX4_turnRound_24 : decode cX4_turnRound 24 = .ok (.invokevirtual 44, 3) := by decide +kernel
theorem dX4_turnRound_27 : decode cX4_turnRound 27 = .ok (.istore_n 3, 1) := by decide +kernel
theorem dX4_turnRound_28 : decode cX4_turnRound 28 = .ok (.aload_n 0, 1) := by decide +kernel
theorem dX4_turnRound_29 : decode cX4_turnRound 29 = .ok (.iload_n 3, 1) := by decide +kernel
theorem dX4_turnRound_30 : decode cX4_turnRound 30 = .ok (.iload_n 3, 1) := by decide +kernel
theorem dX4_turnRound_31 : decode cX4_turnRound 31 = .ok (.invokestatic 48, 3) := by decide +kernel
theorem dX4_turnRound_34 : decode cX4_turnRound 34 = .ok (.ifCond .ne 7, 3) := by decide +kernel
theorem dX4_turnRound_37 : decode cX4_turnRound 37 = .ok (.iconst 1, 1) := by decide +kernel
theorem dX4_turnRound_38 : decode cX4_turnRound 38 = .ok (.goto 4, 3) := by decide +kernel
theorem dX4_turnRound_41 : decode cX4_turnRound 41 = .ok (.iconst 0, 1) := by decide +kernel
theorem dX4_turnRound_42 : decode cX4_turnRound 42 = .ok (.invokevirtual 52, 3) := by decide +kernel
theorem dX4_turnRound_45 : decode cX4_turnRound 45 = .ok (.iinc 2 1, 3) := by decide +kernel
theorem dX4_turnRound_48 : decode cX4_turnRound 48 = .ok (.goto (-42), 3) := by decide +kernel
theorem dX4_turnRound_51 : decode cX4_turnRound 51 = .ok (.return_, 1) := by decide +kernel
set_option maxRecDepth 20000 in
theorem ggX4_narrow_X1_cellOf : GoodIn wsX4_narrow wsX1_cellOf := goodIn_r _ [5] (by decide +kernel) (by decide +kernel)
set_option maxRecDepth 20000 in
theorem gX4_narrow_X1_cellOf : GoodIn wsX4_narrow (va_wsS RX4 56 yX1_cellOf wsX1_cellOf) := goodIn_app (goodIn_of _ (by decide +kernel)) ggX4_narrow_X1_cellOf
set_option maxRecDepth 20000 in
theorem ggX4_narrow_X1_symbolOf : GoodIn wsX4_narrow wsX1_symbolOf := goodIn_r _ [8] (by decide +kernel) (by decide +kernel)
set_option maxRecDepth 20000 in
theorem gX4_narrow_X1_symbolOf : GoodIn wsX4_narrow (va_wsS RX4 59 yX1_symbolOf wsX1_symbolOf) := goodIn_app (goodIn_of _ (by decide +kernel)) ggX4_narrow_X1_symbolOf
theorem dX4_narrow_0 : decode cX4_narrow 0 = .ok (.iload_n 1, 1) := by decide +kernel
theorem dX4_narrow_1 : decode cX4_narrow 1 = .ok (.invokestatic 56, 3) := by decide +kernel
theorem dX4_narrow_4 : decode cX4_narrow 4 = .ok (.istore_n 3, 1) := by decide +kernel
theorem dX4_narrow_5 : decode cX4_narrow 5 = .ok (.iconst 1, 1) := by decide +kernel
theorem dX4_narrow_6 : decode cX4_narrow 6 = .ok (.iload_n 1, 1) := by decide +kernel
theorem dX4_narrow_7 : decode cX4_narrow 7 = .ok (.invokestatic 59, 3) := by decide +kernel
theorem dX4_narrow_10 : decode cX4_narrow 10 = .ok (.ishl, 1) := by decide +kernel
theorem dX4_narrow_11 : decode cX4_narrow 11 = .ok (.istore 4, 2) := by decide +kernel
theorem dX4_narrow_13 : decode cX4_narrow 13 = .ok (.aload_n 0, 1) := by decide +kernel
theorem dX4_narrow_14 : decode cX4_narrow 14 = .ok (.getfield 11, 3) := by decide +kernel
theorem dX4_narrow_17 : decode cX4_narrow 17 = .ok (.iload_n 3, 1) := by decide +kernel
theorem dX4_narrow_18 : decode cX4_narrow 18 = .ok (.aload_n 0, 1) := by decide +kernel
theorem dX4_narrow_19 : decode cX4_narrow 19 = .ok (.getfield 11, 3) := by decide +kernel
theorem dX4_narrow_22 : decode cX4_narrow 22 = .ok (.iload_n 3, 1) := by decide +kernel
theorem dX4_narrow_23 : decode cX4_narrow 23 = .ok (.iaload, 1) := by decide +kernel
theorem dX4_narrow_24 : decode cX4_narrow 24 = .ok (.iload_n 2, 1) := by decide +kernel
theorem dX4_narrow_25 : decode cX4_narrow 25 = .ok (.ifCond .eq 8, 3) := by decide +kernel
theorem dX4_narrow_28 : decode cX4_narrow 28 = .ok (.iload 4, 2) := by decide +kernel
theorem dX4_narrow_30 : decode cX4_narrow 30 = .ok (.goto 7, 3) := by decide +kernel
theorem dX4_narrow_33 : decode cX4_narrow 33 = .ok (.iload 4, 2) := by decide +kernel
theorem dX4_narrow_35 : decode cX4_narrow 35 = .ok (.iconst (-1), 1) := by decide +kernel
theorem dX4_narrow_36 : decode cX4_narrow 36 = .ok (.ixor, 1) := by decide +kernel
theorem dX4_narrow_37 : decode cX4_narrow 37 = .ok (.iand, 1) := by decide +kernel
theorem dX4_narrow_38 : decode cX4_narrow 38 = .ok (.iastore, 1) := by decide +kernel
theorem dX4_narrow_39 : decode cX4_narrow 39 = .ok (.return_, 1) := by decide +kernel
set_option maxRecDepth 20000 in
theorem ggX4_refute_X4_turnRound : GoodIn wsX4_refute wsX4_turnRound := goodIn_r _ [5, 6, 7, 8, 9, 4, 10, 11, 12, 13, 14, 15, 16, 17, 18, 19, 20, 21, 22, 23, 24, 25, 26, 27, 28, 29, 30, 31, 32, 33, 34, 35, 36, 37, 38, 39, 40, 41, 42, 43, 44, 45, 46, 47, 68, 69, 70, 71, 72, 73, 74, 75, 76, 77, 78, 79, 80, 81] (by decide +kernel) (by decide +kernel)
set_option maxRecDepth 20000 in
theorem gX4_refute_X4_turnRound : GoodIn wsX4_refute (wsV RX4 62 RX4 yX4_turnRound wsX4_turnRound) := goodIn_app (goodIn_of _ (by decide +kernel)) ggX4_refute_X4_turnRound
set_option maxRecDepth 20000 in
theorem ggX4_refute_X4_comeToNothing : GoodIn wsX4_refute wsX4_comeToNothing := goodIn_r _ [51, 11, 52, 53, 54, 4, 55, 12, 13, 14, 15, 16, 17, 18, 56, 57, 58, 59, 23, 60, 61, 62, 63, 6, 24, 25, 26, 27, 28, 29, 30, 31, 32, 33, 34, 64, 65, 66, 67, 42, 43, 44, 45, 46, 47, 35, 36, 37, 38, 39, 40, 41, 68, 69, 70, 71, 72, 73, 74, 75, 76, 77, 78, 79, 80, 81] (by decide +kernel) (by decide +kernel)
set_option maxRecDepth 20000 in
theorem gX4_refute_X4_comeToNothing : GoodIn wsX4_refute (wsV RX4 66 RX4 yX4_comeToNothing wsX4_comeToNothing) := goodIn_app (goodIn_of _ (by decide +kernel)) ggX4_refute_X4_comeToNothing
theorem dX4_refute_0 : decode cX4_refute 0 = .ok (.aload_n 0, 1) := by decide +kernel
theorem dX4_refute_1 : decode cX4_refute 1 = .ok (.iload_n 1, 1) := by decide +kernel
theorem dX4_refute_2 : decode cX4_refute 2 = .ok (.invokevirtual 62, 3) := by decide +kernel
theorem dX4_refute_5 : decode cX4_refute 5 = .ok (.aload_n 0, 1) := by decide +kernel
theorem dX4_refute_6 : decode cX4_refute 6 = .ok (.iload_n 1, 1) := by decide +kernel
theorem dX4_refute_7 : decode cX4_refute 7 = .ok (.invokevirtual 66, 3) := by decide +kernel
theorem dX4_refute_10 : decode cX4_refute 10 = .ok (.ireturn, 1) := by decide +kernel
set_option maxRecDepth 20000 in
theorem ggX4_refuteBySplit_X4_refute : GoodIn wsX4_refuteBySplit wsX4_refute := goodIn_r _ [12, 13, 14, 15, 11, 16, 17, 18, 19, 20, 21, 7, 1, 22, 23, 24, 25, 26, 27, 28, 29, 30, 31, 32, 33, 34, 35, 36, 37, 38, 39, 40, 41, 42, 43, 44, 45, 46, 47, 48, 49, 50, 51, 52, 53, 54, 55, 56, 57, 58, 59, 60, 61, 62, 63, 64, 65, 66, 67, 68, 69, 70, 71, 72, 73, 74, 75, 76, 77, 78, 79, 80, 81, 82, 83, 84, 85, 86, 87, 88, 89, 90] (by decide +kernel) (by decide +kernel)
set_option maxRecDepth 20000 in
theorem gX4_refuteBySplit_X4_refute : GoodIn wsX4_refuteBySplit (wsV RX4 69 RX4 yX4_refute wsX4_refute) := goodIn_app (goodIn_of _ (by decide +kernel)) ggX4_refuteBySplit_X4_refute
set_option maxRecDepth 20000 in
theorem ggX4_refuteBySplit_X0_symbols : GoodIn wsX4_refuteBySplit wsX0_symbols := goodIn_r _ [68, 32, 81, 82, 83, 84, 85] (by decide +kernel) (by decide +kernel)
set_option maxRecDepth 20000 in
theorem gX4_refuteBySplit_X0_symbols : GoodIn wsX4_refuteBySplit (wsV RX4 78 RX0 yX0_symbols wsX0_symbols) := goodIn_app (goodIn_of _ (by decide +kernel)) ggX4_refuteBySplit_X0_symbols
set_option maxRecDepth 20000 in
theorem ggX4_refuteBySplit_X4_comeToNothing : GoodIn wsX4_refuteBySplit wsX4_comeToNothing := goodIn_r _ [60, 7, 61, 62, 63, 11, 64, 1, 22, 23, 24, 25, 26, 27, 65, 66, 67, 68, 32, 69, 70, 71, 72, 17, 33, 34, 35, 36, 37, 38, 39, 40, 41, 42, 43, 73, 74, 75, 76, 51, 52, 53, 54, 55, 56, 44, 45, 46, 47, 48, 49, 50, 77, 78, 79, 80, 81, 82, 83, 84, 85, 86, 87, 88, 89, 90] (by decide +kernel) (by decide +kernel)
set_option maxRecDepth 20000 in
theorem gX4_refuteBySplit_X4_comeToNothing : GoodIn wsX4_refuteBySplit (wsV RX4 66 RX4 yX4_comeToNothing wsX4_comeToNothing) := goodIn_app (goodIn_of _ (by decide +kernel)) ggX4_refuteBySplit_X4_comeToNothing
theorem dX4_refuteBySplit_0 : decode cX4_refuteBySplit 0 = .ok (.aload_n 0, 1) := by decide +kernel
theorem dX4_refuteBySplit_1 : decode cX4_refuteBySplit 1 = .ok (.iload_n 1, 1) := by decide +kernel
theorem dX4_refuteBySplit_2 : decode cX4_refuteBySplit 2 = .ok (.invokevirtual 69, 3) := by decide +kernel
theorem dX4_refuteBySplit_5 : decode cX4_refuteBySplit 5 = .ok (.ifCond .eq 5, 3) := by decide +kernel
theorem dX4_refuteBySplit_8 : decode cX4_refuteBySplit 8 = .ok (.iconst 1, 1) := by decide +kernel
theorem dX4_refuteBySplit_9 : decode cX4_refuteBySplit 9 = .ok (.ireturn, 1) := by decide +kernel
theorem dX4_refuteBySplit_10 : decode cX4_refuteBySplit 10 = .ok (.aload_n 0, 1) := by decide +kernel
theorem dX4_refuteBySplit_11 : decode cX4_refuteBySplit 11 = .ok (.getfield 11, 3) := by decide +kernel
theorem dX4_refuteBySplit_14 : decode cX4_refuteBySplit 14 = .ok (.iconst 0, 1) := by decide +kernel
theorem dX4_refuteBySplit_15 : decode cX4_refuteBySplit 15 = .ok (.aload_n 0, 1) := by decide +kernel
theorem dX4_refuteBySplit_16 : decode cX4_refuteBySplit 16 = .ok (.getfield 17, 3) := by decide +kernel
theorem dX4_refuteBySplit_19 : decode cX4_refuteBySplit 19 = .ok (.iconst 0, 1) := by decide +kernel
theorem dX4_refuteBySplit_20 : decode cX4_refuteBySplit 20 = .ok (.bipush 16, 2) := by decide +kernel
theorem dX4_refuteBySplit_22 : decode cX4_refuteBySplit 22 = .ok (.invokestatic 72, 3) := by decide +kernel
theorem dX4_refuteBySplit_25 : decode cX4_refuteBySplit 25 = .ok (.iconst 0, 1) := by decide +kernel
theorem dX4_refuteBySplit_26 : decode cX4_refuteBySplit 26 = .ok (.istore_n 3, 1) := by decide +kernel
theorem dX4_refuteBySplit_27 : decode cX4_refuteBySplit 27 = .ok (.iload_n 3, 1) := by decide +kernel
theorem dX4_refuteBySplit_28 : decode cX4_refuteBySplit 28 = .ok (.aload_n 0, 1) := by decide +kernel
theorem dX4_refuteBySplit_29 : decode cX4_refuteBySplit 29 = .ok (.getfield 20, 3) := by decide +kernel
theorem dX4_refuteBySplit_32 : decode cX4_refuteBySplit 32 = .ok (.invokevirtual 78, 3) := by decide +kernel
theorem dX4_refuteBySplit_35 : decode cX4_refuteBySplit 35 = .ok (.if_icmp .ge 59, 3) := by decide +kernel
theorem dX4_refuteBySplit_38 : decode cX4_refuteBySplit 38 = .ok (.iconst 1, 1) := by decide +kernel
theorem dX4_refuteBySplit_39 : decode cX4_refuteBySplit 39 = .ok (.iload_n 3, 1) := by decide +kernel
theorem dX4_refuteBySplit_40 : decode cX4_refuteBySplit 40 = .ok (.ishl, 1) := by decide +kernel
theorem dX4_refuteBySplit_41 : decode cX4_refuteBySplit 41 = .ok (.istore 4, 2) := by decide +kernel
theorem dX4_refuteBySplit_43 : decode cX4_refuteBySplit 43 = .ok (.aload_n 0, 1) := by decide +kernel
theorem dX4_refuteBySplit_44 : decode cX4_refuteBySplit 44 = .ok (.getfield 17, 3) := by decide +kernel
theorem dX4_refuteBySplit_47 : decode cX4_refuteBySplit 47 = .ok (.iload_n 2, 1) := by decide +kernel
theorem dX4_refuteBySplit_48 : decode cX4_refuteBySplit 48 = .ok (.iaload, 1) := by decide +kernel
theorem dX4_refuteBySplit_49 : decode cX4_refuteBySplit 49 = .ok (.iload 4, 2) := by decide +kernel
theorem dX4_refuteBySplit_51 : decode cX4_refuteBySplit 51 = .ok (.iand, 1) := by decide +kernel
theorem dX4_refuteBySplit_52 : decode cX4_refuteBySplit 52 = .ok (.ifCond .eq 36, 3) := by decide +kernel
theorem dX4_refuteBySplit_55 : decode cX4_refuteBySplit 55 = .ok (.aload_n 0, 1) := by decide +kernel
theorem dX4_refuteBySplit_56 : decode cX4_refuteBySplit 56 = .ok (.getfield 17, 3) := by decide +kernel
theorem dX4_refuteBySplit_59 : decode cX4_refuteBySplit 59 = .ok (.iconst 0, 1) := by decide +kernel
theorem dX4_refuteBySplit_60 : decode cX4_refuteBySplit 60 = .ok (.aload_n 0, 1) := by decide +kernel
theorem dX4_refuteBySplit_61 : decode cX4_refuteBySplit 61 = .ok (.getfield 11, 3) := by decide +kernel
theorem dX4_refuteBySplit_64 : decode cX4_refuteBySplit 64 = .ok (.iconst 0, 1) := by decide +kernel
theorem dX4_refuteBySplit_65 : decode cX4_refuteBySplit 65 = .ok (.bipush 16, 2) := by decide +kernel
theorem dX4_refuteBySplit_67 : decode cX4_refuteBySplit 67 = .ok (.invokestatic 72, 3) := by decide +kernel
theorem dX4_refuteBySplit_70 : decode cX4_refuteBySplit 70 = .ok (.aload_n 0, 1) := by decide +kernel
theorem dX4_refuteBySplit_71 : decode cX4_refuteBySplit 71 = .ok (.getfield 11, 3) := by decide +kernel
theorem dX4_refuteBySplit_74 : decode cX4_refuteBySplit 74 = .ok (.iload_n 2, 1) := by decide +kernel
theorem dX4_refuteBySplit_75 : decode cX4_refuteBySplit 75 = .ok (.iload 4, 2) := by decide +kernel
theorem dX4_refuteBySplit_77 : decode cX4_refuteBySplit 77 = .ok (.iastore, 1) := by decide +kernel
theorem dX4_refuteBySplit_78 : decode cX4_refuteBySplit 78 = .ok (.aload_n 0, 1) := by decide +kernel
theorem dX4_refuteBySplit_79 : decode cX4_refuteBySplit 79 = .ok (.iload_n 1, 1) := by decide +kernel
theorem dX4_refuteBySplit_80 : decode cX4_refuteBySplit 80 = .ok (.invokevirtual 66, 3) := by decide +kernel
theorem dX4_refuteBySplit_83 : decode cX4_refuteBySplit 83 = .ok (.ifCond .ne 5, 3) := by decide +kernel
theorem dX4_refuteBySplit_86 : decode cX4_refuteBySplit 86 = .ok (.iconst 0, 1) := by decide +kernel
theorem dX4_refuteBySplit_87 : decode cX4_refuteBySplit 87 = .ok (.ireturn, 1) := by decide +kernel
theorem dX4_refuteBySplit_88 : decode cX4_refuteBySplit 88 = .ok (.iinc 3 1, 3) := by decide +kernel
theorem dX4_refuteBySplit_91 : decode cX4_refuteBySplit 91 = .ok (.goto (-64), 3) := by decide +kernel
theorem dX4_refuteBySplit_94 : decode cX4_refuteBySplit 94 = .ok (.iconst 1, 1) := by decide +kernel
theorem dX4_refuteBySplit_95 : decode cX4_refuteBySplit 95 = .ok (.ireturn, 1) := by decide +kernel
set_option maxRecDepth 20000 in
theorem ggX4_comeToNothing_X4_someCellMayBeNothing : GoodIn wsX4_comeToNothing wsX4_someCellMayBeNothing := goodIn_r _ [6, 1, 7, 8, 9, 10, 11, 12, 13, 52, 53, 54, 55, 56, 57, 58, 59, 60] (by decide +kernel) (by decide +kernel)
set_option maxRecDepth 20000 in
theorem gX4_comeToNothing_X4_someCellMayBeNothing : GoodIn wsX4_comeToNothing (wsV RX4 80 RX4 yX4_someCellMayBeNothing wsX4_someCellMayBeNothing) := goodIn_app (goodIn_of _ (by decide +kernel)) ggX4_comeToNothing_X4_someCellMayBeNothing
set_option maxRecDepth 20000 in
theorem ggX4_comeToNothing_X0_cells : GoodIn wsX4_comeToNothing wsX0_cells := goodIn_r _ [12, 13, 56, 57, 58, 59, 60] (by decide +kernel) (by decide +kernel)
set_option maxRecDepth 20000 in
theorem gX4_comeToNothing_X0_cells : GoodIn wsX4_comeToNothing (wsV RX4 28 RX0 yX0_cells wsX0_cells) := goodIn_app (goodIn_of _ (by decide +kernel)) ggX4_comeToNothing_X0_cells
set_option maxRecDepth 20000 in
theorem ggX4_comeToNothing_X0_symbols : GoodIn wsX4_comeToNothing wsX0_symbols := goodIn_r _ [17, 18, 56, 57, 58, 59, 60] (by decide +kernel) (by decide +kernel)
set_option maxRecDepth 20000 in
theorem gX4_comeToNothing_X0_symbols : GoodIn wsX4_comeToNothing (wsV RX4 78 RX0 yX0_symbols wsX0_symbols) := goodIn_app (goodIn_of _ (by decide +kernel)) ggX4_comeToNothing_X0_symbols
set_option maxRecDepth 20000 in
theorem ggX4_comeToNothing_X4_stepBy : GoodIn wsX4_comeToNothing wsX4_stepBy := goodIn_r _ [22, 23, 24, 25, 26, 27, 28, 29, 30, 31, 32, 33, 34, 35, 36, 37, 5, 38, 7, 39, 40, 41, 42, 43, 44, 45, 46, 47, 48, 49, 50, 51, 52, 53, 54, 55, 61, 62, 63, 64, 65] (by decide +kernel) (by decide +kernel)
set_option maxRecDepth 20000 in
theorem gX4_comeToNothing_X4_stepBy : GoodIn wsX4_comeToNothing (wsV RX4 84 RX4 yX4_stepBy wsX4_stepBy) := goodIn_app (goodIn_of _ (by decide +kernel)) ggX4_comeToNothing_X4_stepBy
theorem dX4_comeToNothing_0 : decode cX4_comeToNothing 0 = .ok (.aload_n 0, 1) := by decide +kernel
theorem dX4_comeToNothing_1 : decode cX4_comeToNothing 1 = .ok (.invokevirtual 80, 3) := by decide +kernel
theorem dX4_comeToNothing_4 : decode cX4_comeToNothing 4 = .ok (.ifCond .eq 5, 3) := by decide +kernel
theorem dX4_comeToNothing_7 : decode cX4_comeToNothing 7 = .ok (.iconst 1, 1) := by decide +kernel
theorem dX4_comeToNothing_8 : decode cX4_comeToNothing 8 = .ok (.ireturn, 1) := by decide +kernel
theorem dX4_comeToNothing_9 : decode cX4_comeToNothing 9 = .ok (.aload_n 0, 1) := by decide +kernel
theorem dX4_comeToNothing_10 : decode cX4_comeToNothing 10 = .ok (.getfield 20, 3) := by decide +kernel
theorem dX4_comeToNothing_13 : decode cX4_comeToNothing 13 = .ok (.invokevirtual 28, 3) := by decide +kernel
theorem dX4_comeToNothing_16 : decode cX4_comeToNothing 16 = .ok (.aload_n 0, 1) := by decide +kernel
theorem dX4_comeToNothing_17 : decode cX4_comeToNothing 17 = .ok (.getfield 20, 3) := by decide +kernel
theorem dX4_comeToNothing_20 : decode cX4_comeToNothing 20 = .ok (.invokevirtual 78, 3) := by decide +kernel
theorem dX4_comeToNothing_23 : decode cX4_comeToNothing 23 = .ok (.imul, 1) := by decide +kernel
theorem dX4_comeToNothing_24 : decode cX4_comeToNothing 24 = .ok (.istore_n 2, 1) := by decide +kernel
theorem dX4_comeToNothing_25 : decode cX4_comeToNothing 25 = .ok (.iconst 0, 1) := by decide +kernel
theorem dX4_comeToNothing_26 : decode cX4_comeToNothing 26 = .ok (.istore_n 3, 1) := by decide +kernel
theorem dX4_comeToNothing_27 : decode cX4_comeToNothing 27 = .ok (.iconst 0, 1) := by decide +kernel
theorem dX4_comeToNothing_28 : decode cX4_comeToNothing 28 = .ok (.istore 4, 2) := by decide +kernel
theorem dX4_comeToNothing_30 : decode cX4_comeToNothing 30 = .ok (.iload 4, 2) := by decide +kernel
theorem dX4_comeToNothing_32 : decode cX4_comeToNothing 32 = .ok (.iload_n 2, 1) := by decide +kernel
theorem dX4_comeToNothing_33 : decode cX4_comeToNothing 33 = .ok (.iconst 1, 1) := by decide +kernel
theorem dX4_comeToNothing_34 : decode cX4_comeToNothing 34 = .ok (.iadd, 1) := by decide +kernel
theorem dX4_comeToNothing_35 : decode cX4_comeToNothing 35 = .ok (.iload_n 1, 1) := by decide +kernel
theorem dX4_comeToNothing_36 : decode cX4_comeToNothing 36 = .ok (.imul, 1) := by decide +kernel
theorem dX4_comeToNothing_37 : decode cX4_comeToNothing 37 = .ok (.if_icmp .ge 43, 3) := by decide +kernel
theorem dX4_comeToNothing_40 : decode cX4_comeToNothing 40 = .ok (.iload_n 3, 1) := by decide +kernel
theorem dX4_comeToNothing_41 : decode cX4_comeToNothing 41 = .ok (.iload_n 1, 1) := by decide +kernel
theorem dX4_comeToNothing_42 : decode cX4_comeToNothing 42 = .ok (.if_icmp .ge 38, 3) := by decide +kernel
theorem dX4_comeToNothing_45 : decode cX4_comeToNothing 45 = .ok (.aload_n 0, 1) := by decide +kernel
theorem dX4_comeToNothing_46 : decode cX4_comeToNothing 46 = .ok (.iload_n 3, 1) := by decide +kernel
theorem dX4_comeToNothing_47 : decode cX4_comeToNothing 47 = .ok (.invokevirtual 84, 3) := by decide +kernel
theorem dX4_comeToNothing_50 : decode cX4_comeToNothing 50 = .ok (.istore 5, 2) := by decide +kernel
theorem dX4_comeToNothing_52 : decode cX4_comeToNothing 52 = .ok (.iload 5, 2) := by decide +kernel
theorem dX4_comeToNothing_54 : decode cX4_comeToNothing 54 = .ok (.iconst 2, 1) := by decide +kernel
theorem dX4_comeToNothing_55 : decode cX4_comeToNothing 55 = .ok (.if_icmp .ne 5, 3) := by decide +kernel
theorem dX4_comeToNothing_58 : decode cX4_comeToNothing 58 = .ok (.iconst 1, 1) := by decide +kernel
theorem dX4_comeToNothing_59 : decode cX4_comeToNothing 59 = .ok (.ireturn, 1) := by decide +kernel
theorem dX4_comeToNothing_60 : decode cX4_comeToNothing 60 = .ok (.iload 5, 2) := by decide +kernel
theorem dX4_comeToNothing_62 : decode cX4_comeToNothing 62 = .ok (.iconst 1, 1) := by decide +kernel
theorem dX4_comeToNothing_63 : decode cX4_comeToNothing 63 = .ok (.if_icmp .ne 7, 3) := by decide +kernel
theorem dX4_comeToNothing_66 : decode cX4_comeToNothing 66 = .ok (.iconst 0, 1) := by decide +kernel
theorem dX4_comeToNothing_67 : decode cX4_comeToNothing 67 = .ok (.goto 6, 3) := by decide +kernel
theorem dX4_comeToNothing_70 : decode cX4_comeToNothing 70 = .ok (.iload_n 3, 1) := by decide +kernel
theorem dX4_comeToNothing_71 : decode cX4_comeToNothing 71 = .ok (.iconst 1, 1) := by decide +kernel
theorem dX4_comeToNothing_72 : decode cX4_comeToNothing 72 = .ok (.iadd, 1) := by decide +kernel
theorem dX4_comeToNothing_73 : decode cX4_comeToNothing 73 = .ok (.istore_n 3, 1) := by decide +kernel
theorem dX4_comeToNothing_74 : decode cX4_comeToNothing 74 = .ok (.iinc 4 1, 3) := by decide +kernel
theorem dX4_comeToNothing_77 : decode cX4_comeToNothing 77 = .ok (.goto (-47), 3) := by decide +kernel
theorem dX4_comeToNothing_80 : decode cX4_comeToNothing 80 = .ok (.iconst 0, 1) := by decide +kernel
theorem dX4_comeToNothing_81 : decode cX4_comeToNothing 81 = .ok (.ireturn, 1) := by decide +kernel
set_option maxRecDepth 20000 in
theorem ggX4_someCellMayBeNothing_X0_cells : GoodIn wsX4_someCellMayBeNothing wsX0_cells := goodIn_r _ [7, 8, 13, 14, 15, 16, 17] (by decide +kernel) (by decide +kernel)
set_option maxRecDepth 20000 in
theorem gX4_someCellMayBeNothing_X0_cells : GoodIn wsX4_someCellMayBeNothing (wsV RX4 28 RX0 yX0_cells wsX0_cells) := goodIn_app (goodIn_of _ (by decide +kernel)) ggX4_someCellMayBeNothing_X0_cells
theorem dX4_someCellMayBeNothing_0 : decode cX4_someCellMayBeNothing 0 = .ok (.iconst 0, 1) := by decide +kernel
theorem dX4_someCellMayBeNothing_1 : decode cX4_someCellMayBeNothing 1 = .ok (.istore_n 1, 1) := by decide +kernel
theorem dX4_someCellMayBeNothing_2 : decode cX4_someCellMayBeNothing 2 = .ok (.iload_n 1, 1) := by decide +kernel
theorem dX4_someCellMayBeNothing_3 : decode cX4_someCellMayBeNothing 3 = .ok (.aload_n 0, 1) := by decide +kernel
theorem dX4_someCellMayBeNothing_4 : decode cX4_someCellMayBeNothing 4 = .ok (.getfield 20, 3) := by decide +kernel
theorem dX4_someCellMayBeNothing_7 : decode cX4_someCellMayBeNothing 7 = .ok (.invokevirtual 28, 3) := by decide +kernel
theorem dX4_someCellMayBeNothing_10 : decode cX4_someCellMayBeNothing 10 = .ok (.if_icmp .ge 20, 3) := by decide +kernel
theorem dX4_someCellMayBeNothing_13 : decode cX4_someCellMayBeNothing 13 = .ok (.aload_n 0, 1) := by decide +kernel
theorem dX4_someCellMayBeNothing_14 : decode cX4_someCellMayBeNothing 14 = .ok (.getfield 11, 3) := by decide +kernel
theorem dX4_someCellMayBeNothing_17 : decode cX4_someCellMayBeNothing 17 = .ok (.iload_n 1, 1) := by decide +kernel
theorem dX4_someCellMayBeNothing_18 : decode cX4_someCellMayBeNothing 18 = .ok (.iaload, 1) := by decide +kernel
theorem dX4_someCellMayBeNothing_19 : decode cX4_someCellMayBeNothing 19 = .ok (.ifCond .ne 5, 3) := by decide +kernel
theorem dX4_someCellMayBeNothing_22 : decode cX4_someCellMayBeNothing 22 = .ok (.iconst 1, 1) := by decide +kernel
theorem dX4_someCellMayBeNothing_23 : decode cX4_someCellMayBeNothing 23 = .ok (.ireturn, 1) := by decide +kernel
theorem dX4_someCellMayBeNothing_24 : decode cX4_someCellMayBeNothing 24 = .ok (.iinc 1 1, 3) := by decide +kernel
theorem dX4_someCellMayBeNothing_27 : decode cX4_someCellMayBeNothing 27 = .ok (.goto (-25), 3) := by decide +kernel
theorem dX4_someCellMayBeNothing_30 : decode cX4_someCellMayBeNothing 30 = .ok (.iconst 0, 1) := by decide +kernel
theorem dX4_someCellMayBeNothing_31 : decode cX4_someCellMayBeNothing 31 = .ok (.ireturn, 1) := by decide +kernel
set_option maxRecDepth 20000 in
theorem ggX4_stepBy_X1_sizeOf : GoodIn wsX4_stepBy wsX1_sizeOf := goodIn_r _ [6, 7, 36, 37, 38, 39, 40] (by decide +kernel) (by decide +kernel)
set_option maxRecDepth 20000 in
theorem gX4_stepBy_X1_sizeOf : GoodIn wsX4_stepBy (wsV RX4 38 RX1 yX1_sizeOf wsX1_sizeOf) := goodIn_app (goodIn_of _ (by decide +kernel)) ggX4_stepBy_X1_sizeOf
set_option maxRecDepth 20000 in
theorem ggX4_stepBy_X1_literalAt : GoodIn wsX4_stepBy wsX1_literalAt := goodIn_r _ [11, 12, 36, 37, 38, 39, 40] (by decide +kernel) (by decide +kernel)
set_option maxRecDepth 20000 in
theorem gX4_stepBy_X1_literalAt : GoodIn wsX4_stepBy (wsV RX4 44 RX1 yX1_literalAt wsX1_literalAt) := goodIn_app (goodIn_of _ (by decide +kernel)) ggX4_stepBy_X1_literalAt
set_option maxRecDepth 20000 in
theorem ggX4_stepBy_X4_stateOf : GoodIn wsX4_stepBy wsX4_stateOf := goodIn_r _ [17, 18, 19, 20, 5, 21, 22, 23, 24, 25, 26, 27, 32, 33, 34, 35] (by decide +kernel) (by decide +kernel)
set_option maxRecDepth 20000 in
theorem gX4_stepBy_X4_stateOf : GoodIn wsX4_stepBy (wsV RX4 87 RX4 yX4_stateOf wsX4_stateOf) := goodIn_app (goodIn_of _ (by decide +kernel)) ggX4_stepBy_X4_stateOf
set_option maxRecDepth 20000 in
theorem ggX4_stepBy_X1_saysIs : GoodIn wsX4_stepBy wsX1_saysIs := goodIn_r _ [27] (by decide +kernel) (by decide +kernel)
set_option maxRecDepth 20000 in
theorem gX4_stepBy_X1_saysIs : GoodIn wsX4_stepBy (va_wsS RX4 48 yX1_saysIs wsX1_saysIs) := goodIn_app (goodIn_of _ (by decide +kernel)) ggX4_stepBy_X1_saysIs
set_option maxRecDepth 20000 in
theorem ggX4_stepBy_X4_narrow : GoodIn wsX4_stepBy wsX4_narrow := goodIn_r _ [31, 18, 19, 20, 5, 21, 22, 23, 24, 32, 33, 34, 35] (by decide +kernel) (by decide +kernel)
set_option maxRecDepth 20000 in
theorem gX4_stepBy_X4_narrow : GoodIn wsX4_stepBy (wsV RX4 52 RX4 yX4_narrow wsX4_narrow) := goodIn_app (goodIn_of _ (by decide +kernel)) ggX4_stepBy_X4_narrow
theorem dX4_stepBy_0 : decode cX4_stepBy 0 = .ok (.iconst (-1), 1) := by decide +kernel
theorem dX4_stepBy_1 : decode cX4_stepBy 1 = .ok (.istore_n 2, 1) := by decide +kernel
theorem dX4_stepBy_2 : decode cX4_stepBy 2 = .ok (.iconst 0, 1) := by decide +kernel
theorem dX4_stepBy_3 : decode cX4_stepBy 3 = .ok (.istore_n 3, 1) := by decide +kernel
theorem dX4_stepBy_4 : decode cX4_stepBy 4 = .ok (.iload_n 3, 1) := by decide +kernel
theorem dX4_stepBy_5 : decode cX4_stepBy 5 = .ok (.aload_n 0, 1) := by decide +kernel
theorem dX4_stepBy_6 : decode cX4_stepBy 6 = .ok (.getfield 24, 3) := by decide +kernel
theorem dX4_stepBy_9 : decode cX4_stepBy 9 = .ok (.iload_n 1, 1) := by decide +kernel
theorem dX4_stepBy_10 : decode cX4_stepBy 10 = .ok (.invokevirtual 38, 3) := by decide +kernel
theorem dX4_stepBy_13 : decode cX4_stepBy 13 = .ok (.if_icmp .ge 56, 3) := by decide +kernel
theorem dX4_stepBy_16 : decode cX4_stepBy 16 = .ok (.aload_n 0, 1) := by decide +kernel
theorem dX4_stepBy_17 : decode cX4_stepBy 17 = .ok (.getfield 24, 3) := by decide +kernel
theorem dX4_stepBy_20 : decode cX4_stepBy 20 = .ok (.iload_n 1, 1) := by decide +kernel
theorem dX4_stepBy_21 : decode cX4_stepBy 21 = .ok (.iload_n 3, 1) := by decide +kernel
theorem dX4_stepBy_22 : decode cX4_stepBy 22 = .ok (.invokevirtual 44, 3) := by decide +kernel
theorem dX4_stepBy_25 : decode cX4_stepBy 25 = .ok (.istore 4, 2) := by decide +kernel
theorem dX4_stepBy_27 : decode cX4_stepBy 27 = .ok (.aload_n 0, 1) := by decide +kernel
theorem dX4_stepBy_28 : decode cX4_stepBy 28 = .ok (.iload 4, 2) := by decide +kernel
theorem dX4_stepBy_30 : decode cX4_stepBy 30 = .ok (.invokevirtual 87, 3) := by decide +kernel
theorem dX4_stepBy_33 : decode cX4_stepBy 33 = .ok (.istore 5, 2) := by decide +kernel
theorem dX4_stepBy_35 : decode cX4_stepBy 35 = .ok (.iload 5, 2) := by decide +kernel
theorem dX4_stepBy_37 : decode cX4_stepBy 37 = .ok (.iconst 3, 1) := by decide +kernel
theorem dX4_stepBy_38 : decode cX4_stepBy 38 = .ok (.if_icmp .eq 14, 3) := by decide +kernel
theorem dX4_stepBy_41 : decode cX4_stepBy 41 = .ok (.iload 5, 2) := by decide +kernel
theorem dX4_stepBy_43 : decode cX4_stepBy 43 = .ok (.iconst 5, 1) := by decide +kernel
theorem dX4_stepBy_44 : decode cX4_stepBy 44 = .ok (.if_icmp .ne 10, 3) := by decide +kernel
theorem dX4_stepBy_47 : decode cX4_stepBy 47 = .ok (.iload_n 2, 1) := by decide +kernel
theorem dX4_stepBy_48 : decode cX4_stepBy 48 = .ok (.iconst (-1), 1) := by decide +kernel
theorem dX4_stepBy_49 : decode cX4_stepBy 49 = .ok (.if_icmp .eq 5, 3) := by decide +kernel
theorem dX4_stepBy_52 : decode cX4_stepBy 52 = .ok (.iconst 0, 1) := by decide +kernel
theorem dX4_stepBy_53 : decode cX4_stepBy 53 = .ok (.ireturn, 1) := by decide +kernel
theorem dX4_stepBy_54 : decode cX4_stepBy 54 = .ok (.iload 5, 2) := by decide +kernel
theorem dX4_stepBy_56 : decode cX4_stepBy 56 = .ok (.iconst 5, 1) := by decide +kernel
theorem dX4_stepBy_57 : decode cX4_stepBy 57 = .ok (.if_icmp .ne 6, 3) := by decide +kernel
theorem dX4_stepBy_60 : decode cX4_stepBy 60 = .ok (.iload 4, 2) := by decide +kernel
theorem dX4_stepBy_62 : decode cX4_stepBy 62 = .ok (.istore_n 2, 1) := by decide +kernel
theorem dX4_stepBy_63 : decode cX4_stepBy 63 = .ok (.iinc 3 1, 3) := by decide +kernel
theorem dX4_stepBy_66 : decode cX4_stepBy 66 = .ok (.goto (-62), 3) := by decide +kernel
theorem dX4_stepBy_69 : decode cX4_stepBy 69 = .ok (.iload_n 2, 1) := by decide +kernel
theorem dX4_stepBy_70 : decode cX4_stepBy 70 = .ok (.iconst (-1), 1) := by decide +kernel
theorem dX4_stepBy_71 : decode cX4_stepBy 71 = .ok (.if_icmp .ne 5, 3) := by decide +kernel
theorem dX4_stepBy_74 : decode cX4_stepBy 74 = .ok (.iconst 2, 1) := by decide +kernel
theorem dX4_stepBy_75 : decode cX4_stepBy 75 = .ok (.ireturn, 1) := by decide +kernel
theorem dX4_stepBy_76 : decode cX4_stepBy 76 = .ok (.aload_n 0, 1) := by decide +kernel
theorem dX4_stepBy_77 : decode cX4_stepBy 77 = .ok (.iload_n 2, 1) := by decide +kernel
theorem dX4_stepBy_78 : decode cX4_stepBy 78 = .ok (.iload_n 2, 1) := by decide +kernel
theorem dX4_stepBy_79 : decode cX4_stepBy 79 = .ok (.invokestatic 48, 3) := by decide +kernel
theorem dX4_stepBy_82 : decode cX4_stepBy 82 = .ok (.invokevirtual 52, 3) := by decide +kernel
theorem dX4_stepBy_85 : decode cX4_stepBy 85 = .ok (.iconst 1, 1) := by decide +kernel
theorem dX4_stepBy_86 : decode cX4_stepBy 86 = .ok (.ireturn, 1) := by decide +kernel
set_option maxRecDepth 20000 in
theorem ggX4_stateOf_X1_cellOf : GoodIn wsX4_stateOf wsX1_cellOf := goodIn_r _ [5] (by decide +kernel) (by decide +kernel)
set_option maxRecDepth 20000 in
theorem gX4_stateOf_X1_cellOf : GoodIn wsX4_stateOf (va_wsS RX4 56 yX1_cellOf wsX1_cellOf) := goodIn_app (goodIn_of _ (by decide +kernel)) ggX4_stateOf_X1_cellOf
set_option maxRecDepth 20000 in
theorem ggX4_stateOf_X1_symbolOf : GoodIn wsX4_stateOf wsX1_symbolOf := goodIn_r _ [8] (by decide +kernel) (by decide +kernel)
set_option maxRecDepth 20000 in
theorem gX4_stateOf_X1_symbolOf : GoodIn wsX4_stateOf (va_wsS RX4 59 yX1_symbolOf wsX1_symbolOf) := goodIn_app (goodIn_of _ (by decide +kernel)) ggX4_stateOf_X1_symbolOf
set_option maxRecDepth 20000 in
theorem ggX4_stateOf_X1_saysIs : GoodIn wsX4_stateOf wsX1_saysIs := goodIn_r _ [11] (by decide +kernel) (by decide +kernel)
set_option maxRecDepth 20000 in
theorem gX4_stateOf_X1_saysIs : GoodIn wsX4_stateOf (va_wsS RX4 48 yX1_saysIs wsX1_saysIs) := goodIn_app (goodIn_of _ (by decide +kernel)) ggX4_stateOf_X1_saysIs
theorem dX4_stateOf_0 : decode cX4_stateOf 0 = .ok (.aload_n 0, 1) := by decide +kernel
theorem dX4_stateOf_1 : decode cX4_stateOf 1 = .ok (.getfield 11, 3) := by decide +kernel
theorem dX4_stateOf_4 : decode cX4_stateOf 4 = .ok (.iload_n 1, 1) := by decide +kernel
theorem dX4_stateOf_5 : decode cX4_stateOf 5 = .ok (.invokestatic 56, 3) := by decide +kernel
theorem dX4_stateOf_8 : decode cX4_stateOf 8 = .ok (.iaload, 1) := by decide +kernel
theorem dX4_stateOf_9 : decode cX4_stateOf 9 = .ok (.istore_n 2, 1) := by decide +kernel
theorem dX4_stateOf_10 : decode cX4_stateOf 10 = .ok (.iconst 1, 1) := by decide +kernel
theorem dX4_stateOf_11 : decode cX4_stateOf 11 = .ok (.iload_n 1, 1) := by decide +kernel
theorem dX4_stateOf_12 : decode cX4_stateOf 12 = .ok (.invokestatic 59, 3) := by decide +kernel
theorem dX4_stateOf_15 : decode cX4_stateOf 15 = .ok (.ishl, 1) := by decide +kernel
theorem dX4_stateOf_16 : decode cX4_stateOf 16 = .ok (.istore_n 3, 1) := by decide +kernel
theorem dX4_stateOf_17 : decode cX4_stateOf 17 = .ok (.iload_n 2, 1) := by decide +kernel
theorem dX4_stateOf_18 : decode cX4_stateOf 18 = .ok (.iload_n 3, 1) := by decide +kernel
theorem dX4_stateOf_19 : decode cX4_stateOf 19 = .ok (.if_icmp .ne 16, 3) := by decide +kernel
theorem dX4_stateOf_22 : decode cX4_stateOf 22 = .ok (.iload_n 1, 1) := by decide +kernel
theorem dX4_stateOf_23 : decode cX4_stateOf 23 = .ok (.invokestatic 48, 3) := by decide +kernel
theorem dX4_stateOf_26 : decode cX4_stateOf 26 = .ok (.ifCond .eq 7, 3) := by decide +kernel
theorem dX4_stateOf_29 : decode cX4_stateOf 29 = .ok (.iconst 3, 1) := by decide +kernel
theorem dX4_stateOf_30 : decode cX4_stateOf 30 = .ok (.goto 4, 3) := by decide +kernel
theorem dX4_stateOf_33 : decode cX4_stateOf 33 = .ok (.iconst 4, 1) := by decide +kernel
theorem dX4_stateOf_34 : decode cX4_stateOf 34 = .ok (.ireturn, 1) := by decide +kernel
theorem dX4_stateOf_35 : decode cX4_stateOf 35 = .ok (.iload_n 2, 1) := by decide +kernel
theorem dX4_stateOf_36 : decode cX4_stateOf 36 = .ok (.iload_n 3, 1) := by decide +kernel
theorem dX4_stateOf_37 : decode cX4_stateOf 37 = .ok (.iand, 1) := by decide +kernel
theorem dX4_stateOf_38 : decode cX4_stateOf 38 = .ok (.ifCond .ne 16, 3) := by decide +kernel
theorem dX4_stateOf_41 : decode cX4_stateOf 41 = .ok (.iload_n 1, 1) := by decide +kernel
theorem dX4_stateOf_42 : decode cX4_stateOf 42 = .ok (.invokestatic 48, 3) := by decide +kernel
theorem dX4_stateOf_45 : decode cX4_stateOf 45 = .ok (.ifCond .eq 7, 3) := by decide +kernel
theorem dX4_stateOf_48 : decode cX4_stateOf 48 = .ok (.iconst 4, 1) := by decide +kernel
theorem dX4_stateOf_49 : decode cX4_stateOf 49 = .ok (.goto 4, 3) := by decide +kernel
theorem dX4_stateOf_52 : decode cX4_stateOf 52 = .ok (.iconst 3, 1) := by decide +kernel
theorem dX4_stateOf_53 : decode cX4_stateOf 53 = .ok (.ireturn, 1) := by decide +kernel
theorem dX4_stateOf_54 : decode cX4_stateOf 54 = .ok (.iconst 5, 1) := by decide +kernel
theorem dX4_stateOf_55 : decode cX4_stateOf 55 = .ok (.ireturn, 1) := by decide +kernel
end
section
set_option maxRecDepth 20000 in
theorem ggX5_init_X0_init : GoodIn wsX5_init wsX0_init := goodIn_r _ [28, 29, 2, 3, 30, 31, 32, 33, 34, 35, 36, 6, 37, 38, 39, 40, 41, 42, 43, 44, 81, 82, 83, 84, 85] (by decide +kernel) (by decide +kernel)
set_option maxRecDepth 20000 in
theorem gX5_init_X0_init : GoodIn wsX5_init (wsX0_init) := ggX5_init_X0_init
set_option maxRecDepth 20000 in
theorem ggX5_init_X3_init : GoodIn wsX5_init wsX3_init := goodIn_r _ [47, 48, 2, 3, 24, 49, 50, 51, 52, 53, 54, 55, 92, 93, 94, 95, 96, 97, 98] (by decide +kernel) (by decide +kernel)
set_option maxRecDepth 20000 in
theorem gX5_init_X3_init : GoodIn wsX5_init (wsX3_init) := ggX5_init_X3_init
set_option maxRecDepth 20000 in
theorem ggX5_init_X1_init : GoodIn wsX5_init wsX1_init := goodIn_r _ [57, 58, 2, 3, 24, 59, 60, 61, 62, 63, 99, 100, 101, 102, 103] (by decide +kernel) (by decide +kernel)
set_option maxRecDepth 20000 in
theorem gX5_init_X1_init_n29 : GoodIn wsX5_init (wsX1_init) := ggX5_init_X1_init
set_option maxRecDepth 20000 in
theorem ggX5_init_X4_init : GoodIn wsX5_init wsX4_init := goodIn_r _ [66, 67, 2, 3, 24, 68, 69, 70, 71, 104, 105, 106, 107] (by decide +kernel) (by decide +kernel)
set_option maxRecDepth 20000 in
theorem gX5_init_X4_init : GoodIn wsX5_init (wsX4_init) := ggX5_init_X4_init
set_option maxRecDepth 20000 in
theorem ggX5_init_X2_init : GoodIn wsX5_init wsX2_init := goodIn_r _ [74, 75, 2, 3, 24, 76, 77, 78, 79, 80, 108, 109, 110, 111, 112] (by decide +kernel) (by decide +kernel)
set_option maxRecDepth 20000 in
theorem gX5_init_X2_init : GoodIn wsX5_init (wsX2_init) := ggX5_init_X2_init
theorem dX5_init_0 : decode cX5_init 0 = .ok (.aload_n 0, 1) := by decide +kernel
theorem dX5_init_1 : decode cX5_init 1 = .ok (.invokespecial 1, 3) := by decide +kernel
theorem dX5_init_4 : decode cX5_init 4 = .ok (.aload_n 0, 1) := by decide +kernel
theorem dX5_init_5 : decode cX5_init 5 = .ok (.new 7, 3) := by decide +kernel
theorem dX5_init_8 : decode cX5_init 8 = .ok (.dup, 1) := by decide +kernel
theorem dX5_init_9 : decode cX5_init 9 = .ok (.iload_n 1, 1) := by decide +kernel
theorem dX5_init_10 : decode cX5_init 10 = .ok (.iload_n 2, 1) := by decide +kernel
theorem dX5_init_11 : decode cX5_init 11 = .ok (.iload_n 3, 1) := by decide +kernel
theorem dX5_init_12 : decode cX5_init 12 = .ok (.invokespecial 9, 3) := by decide +kernel
theorem dX5_init_15 : decode cX5_init 15 = .ok (.putfield 12, 3) := by decide +kernel
theorem dX5_init_18 : decode cX5_init 18 = .ok (.aload_n 0, 1) := by decide +kernel
theorem dX5_init_19 : decode cX5_init 19 = .ok (.new 18, 3) := by decide +kernel
theorem dX5_init_22 : decode cX5_init 22 = .ok (.dup, 1) := by decide +kernel
theorem dX5_init_23 : decode cX5_init 23 = .ok (.aload_n 0, 1) := by decide +kernel
theorem dX5_init_24 : decode cX5_init 24 = .ok (.getfield 12, 3) := by decide +kernel
theorem dX5_init_27 : decode cX5_init 27 = .ok (.invokespecial 20, 3) := by decide +kernel
theorem dX5_init_30 : decode cX5_init 30 = .ok (.putfield 23, 3) := by decide +kernel
theorem dX5_init_33 : decode cX5_init 33 = .ok (.aload_n 0, 1) := by decide +kernel
theorem dX5_init_34 : decode cX5_init 34 = .ok (.new 27, 3) := by decide +kernel
theorem dX5_init_37 : decode cX5_init 37 = .ok (.dup, 1) := by decide +kernel
theorem dX5_init_38 : decode cX5_init 38 = .ok (.invokespecial 29, 3) := by decide +kernel
theorem dX5_init_41 : decode cX5_init 41 = .ok (.putfield 30, 3) := by decide +kernel
theorem dX5_init_44 : decode cX5_init 44 = .ok (.aload_n 0, 1) := by decide +kernel
theorem dX5_init_45 : decode cX5_init 45 = .ok (.new 34, 3) := by decide +kernel
theorem dX5_init_48 : decode cX5_init 48 = .ok (.dup, 1) := by decide +kernel
theorem dX5_init_49 : decode cX5_init 49 = .ok (.aload_n 0, 1) := by decide +kernel
theorem dX5_init_50 : decode cX5_init 50 = .ok (.getfield 12, 3) := by decide +kernel
theorem dX5_init_53 : decode cX5_init 53 = .ok (.aload_n 0, 1) := by decide +kernel
theorem dX5_init_54 : decode cX5_init 54 = .ok (.getfield 30, 3) := by decide +kernel
theorem dX5_init_57 : decode cX5_init 57 = .ok (.invokespecial 36, 3) := by decide +kernel
theorem dX5_init_60 : decode cX5_init 60 = .ok (.putfield 39, 3) := by decide +kernel
theorem dX5_init_63 : decode cX5_init 63 = .ok (.aload_n 0, 1) := by decide +kernel
theorem dX5_init_64 : decode cX5_init 64 = .ok (.new 43, 3) := by decide +kernel
theorem dX5_init_67 : decode cX5_init 67 = .ok (.dup, 1) := by decide +kernel
theorem dX5_init_68 : decode cX5_init 68 = .ok (.aload_n 0, 1) := by decide +kernel
theorem dX5_init_69 : decode cX5_init 69 = .ok (.getfield 12, 3) := by decide +kernel
theorem dX5_init_72 : decode cX5_init 72 = .ok (.aload_n 0, 1) := by decide +kernel
theorem dX5_init_73 : decode cX5_init 73 = .ok (.getfield 30, 3) := by decide +kernel
theorem dX5_init_76 : decode cX5_init 76 = .ok (.invokespecial 45, 3) := by decide +kernel
theorem dX5_init_79 : decode cX5_init 79 = .ok (.putfield 46, 3) := by decide +kernel
theorem dX5_init_82 : decode cX5_init 82 = .ok (.aload_n 0, 1) := by decide +kernel
theorem dX5_init_83 : decode cX5_init 83 = .ok (.bipush 16, 2) := by decide +kernel
theorem dX5_init_85 : decode cX5_init 85 = .ok (.newarray .int, 2) := by decide +kernel
theorem dX5_init_87 : decode cX5_init 87 = .ok (.putfield 50, 3) := by decide +kernel
theorem dX5_init_90 : decode cX5_init 90 = .ok (.iconst 0, 1) := by decide +kernel
theorem dX5_init_91 : decode cX5_init 91 = .ok (.istore 4, 2) := by decide +kernel
theorem dX5_init_93 : decode cX5_init 93 = .ok (.iload 4, 2) := by decide +kernel
theorem dX5_init_95 : decode cX5_init 95 = .ok (.bipush 16, 2) := by decide +kernel
theorem dX5_init_97 : decode cX5_init 97 = .ok (.if_icmp .ge 17, 3) := by decide +kernel
theorem dX5_init_100 : decode cX5_init 100 = .ok (.aload_n 0, 1) := by decide +kernel
theorem dX5_init_101 : decode cX5_init 101 = .ok (.getfield 50, 3) := by decide +kernel
theorem dX5_init_104 : decode cX5_init 104 = .ok (.iload 4, 2) := by decide +kernel
theorem dX5_init_106 : decode cX5_init 106 = .ok (.iconst (-1), 1) := by decide +kernel
theorem dX5_init_107 : decode cX5_init 107 = .ok (.iastore, 1) := by decide +kernel
theorem dX5_init_108 : decode cX5_init 108 = .ok (.iinc 4 1, 3) := by decide +kernel
theorem dX5_init_111 : decode cX5_init 111 = .ok (.goto (-18), 3) := by decide +kernel
theorem dX5_init_114 : decode cX5_init 114 = .ok (.return_, 1) := by decide +kernel
set_option maxRecDepth 20000 in
theorem ggX5_rule_X3_append : GoodIn wsX5_rule wsX3_append := goodIn_r _ [6, 7, 8, 9, 16, 17, 18, 19, 20, 21, 22] (by decide +kernel) (by decide +kernel)
set_option maxRecDepth 20000 in
theorem gX5_rule_X3_append : GoodIn wsX5_rule (wsV RX5 54 RX3 yX3_append wsX3_append) := goodIn_app (goodIn_of _ (by decide +kernel)) ggX5_rule_X3_append
theorem dX5_rule_0 : decode cX5_rule 0 = .ok (.iload_n 1, 1) := by decide +kernel
theorem dX5_rule_1 : decode cX5_rule 1 = .ok (.ifCond .lt 18, 3) := by decide +kernel
theorem dX5_rule_4 : decode cX5_rule 4 = .ok (.iload_n 1, 1) := by decide +kernel
theorem dX5_rule_5 : decode cX5_rule 5 = .ok (.iconst 4, 1) := by decide +kernel
theorem dX5_rule_6 : decode cX5_rule 6 = .ok (.if_icmp .gt 13, 3) := by decide +kernel
theorem dX5_rule_9 : decode cX5_rule 9 = .ok (.iload_n 2, 1) := by decide +kernel
theorem dX5_rule_10 : decode cX5_rule 10 = .ok (.ifCond .lt 9, 3) := by decide +kernel
theorem dX5_rule_13 : decode cX5_rule 13 = .ok (.iload_n 2, 1) := by decide +kernel
theorem dX5_rule_14 : decode cX5_rule 14 = .ok (.bipush 99, 2) := by decide +kernel
theorem dX5_rule_16 : decode cX5_rule 16 = .ok (.if_icmp .le 5, 3) := by decide +kernel
theorem dX5_rule_19 : decode cX5_rule 19 = .ok (.iconst (-1), 1) := by decide +kernel
theorem dX5_rule_20 : decode cX5_rule 20 = .ok (.ireturn, 1) := by decide +kernel
theorem dX5_rule_21 : decode cX5_rule 21 = .ok (.aload_n 0, 1) := by decide +kernel
theorem dX5_rule_22 : decode cX5_rule 22 = .ok (.getfield 23, 3) := by decide +kernel
theorem dX5_rule_25 : decode cX5_rule 25 = .ok (.iload_n 1, 1) := by decide +kernel
theorem dX5_rule_26 : decode cX5_rule 26 = .ok (.iload_n 2, 1) := by decide +kernel
theorem dX5_rule_27 : decode cX5_rule 27 = .ok (.invokevirtual 54, 3) := by decide +kernel
theorem dX5_rule_30 : decode cX5_rule 30 = .ok (.ireturn, 1) := by decide +kernel
set_option maxRecDepth 20000 in
theorem ggX5_into_X5_needRule : GoodIn wsX5_into wsX5_needRule := goodIn_r _ [6, 1, 7, 8, 9, 10, 11, 12, 13, 14, 15, 37, 38, 39, 40, 41, 42, 43, 44, 45, 46, 47, 48, 49, 50, 51, 52, 53, 54, 55] (by decide +kernel) (by decide +kernel)
set_option maxRecDepth 20000 in
theorem gX5_into_X5_needRule : GoodIn wsX5_into (wsV RX5 58 RX5 yX5_needRule wsX5_needRule) := goodIn_app (goodIn_of _ (by decide +kernel)) ggX5_into_X5_needRule
set_option maxRecDepth 20000 in
theorem ggX5_into_X5_needCell : GoodIn wsX5_into wsX5_needCell := goodIn_r _ [19, 20, 7, 8, 9, 21, 22, 23, 24, 25, 26, 37, 38, 39, 40, 41, 42, 43, 44, 45, 46, 47, 48, 56, 57, 58, 59, 60] (by decide +kernel) (by decide +kernel)
set_option maxRecDepth 20000 in
theorem gX5_into_X5_needCell : GoodIn wsX5_into (wsV RX5 62 RX5 yX5_needCell wsX5_needCell) := goodIn_app (goodIn_of _ (by decide +kernel)) ggX5_into_X5_needCell
set_option maxRecDepth 20000 in
theorem ggX5_into_X3_addCell : GoodIn wsX5_into wsX3_addCell := goodIn_r _ [30, 31, 32, 33, 34, 35, 13, 36, 49, 50, 51, 52, 53, 54, 55] (by decide +kernel) (by decide +kernel)
set_option maxRecDepth 20000 in
theorem gX5_into_X3_addCell : GoodIn wsX5_into (wsV RX5 65 RX3 yX3_addCell wsX3_addCell) := goodIn_app (goodIn_of _ (by decide +kernel)) ggX5_into_X3_addCell
theorem dX5_into_0 : decode cX5_into 0 = .ok (.aload_n 0, 1) := by decide +kernel
theorem dX5_into_1 : decode cX5_into 1 = .ok (.iload_n 1, 1) := by decide +kernel
theorem dX5_into_2 : decode cX5_into 2 = .ok (.invokevirtual 58, 3) := by decide +kernel
theorem dX5_into_5 : decode cX5_into 5 = .ok (.aload_n 0, 1) := by decide +kernel
theorem dX5_into_6 : decode cX5_into 6 = .ok (.iload_n 2, 1) := by decide +kernel
theorem dX5_into_7 : decode cX5_into 7 = .ok (.invokevirtual 62, 3) := by decide +kernel
theorem dX5_into_10 : decode cX5_into 10 = .ok (.aload_n 0, 1) := by decide +kernel
theorem dX5_into_11 : decode cX5_into 11 = .ok (.getfield 23, 3) := by decide +kernel
theorem dX5_into_14 : decode cX5_into 14 = .ok (.iload_n 1, 1) := by decide +kernel
theorem dX5_into_15 : decode cX5_into 15 = .ok (.iload_n 2, 1) := by decide +kernel
theorem dX5_into_16 : decode cX5_into 16 = .ok (.invokevirtual 65, 3) := by decide +kernel
theorem dX5_into_19 : decode cX5_into 19 = .ok (.ireturn, 1) := by decide +kernel
set_option maxRecDepth 20000 in
theorem ggX5_answer_X5_needCell : GoodIn wsX5_answer wsX5_needCell := goodIn_r _ [6, 7, 8, 9, 10, 11, 12, 13, 14, 15, 16, 28, 29, 30, 31, 32, 33, 34, 35, 36, 37, 38, 39, 40, 41, 42, 43, 44] (by decide +kernel) (by decide +kernel)
set_option maxRecDepth 20000 in
theorem gX5_answer_X5_needCell : GoodIn wsX5_answer (wsV RX5 62 RX5 yX5_needCell wsX5_needCell) := goodIn_app (goodIn_of _ (by decide +kernel)) ggX5_answer_X5_needCell
set_option maxRecDepth 20000 in
theorem ggX5_answer_X5_needSymbol : GoodIn wsX5_answer wsX5_needSymbol := goodIn_ca (goodIn_r _ [20, 21, 22, 7, 23, 24, 25, 14, 26, 27, 28, 29, 30, 31, 32, 33, 40, 41, 42, 43, 44] (by decide +kernel) (by decide +kernel)) (goodIn_sub (fun _ h => List.mem_cons_of_mem _ (List.mem_append_right _ h)) (by decide +kernel))
set_option maxRecDepth 20000 in
theorem gX5_answer_X5_needSymbol : GoodIn wsX5_answer (wsV RX5 69 RX5 yX5_needSymbol wsX5_needSymbol) := goodIn_app (goodIn_of _ (by decide +kernel)) ggX5_answer_X5_needSymbol
theorem dX5_answer_0 : decode cX5_answer 0 = .ok (.aload_n 0, 1) := by decide +kernel
theorem dX5_answer_1 : decode cX5_answer 1 = .ok (.iload_n 1, 1) := by decide +kernel
theorem dX5_answer_2 : decode cX5_answer 2 = .ok (.invokevirtual 62, 3) := by decide +kernel
theorem dX5_answer_5 : decode cX5_answer 5 = .ok (.iload_n 2, 1) := by decide +kernel
theorem dX5_answer_6 : decode cX5_answer 6 = .ok (.iconst (-1), 1) := by decide +kernel
theorem dX5_answer_7 : decode cX5_answer 7 = .ok (.if_icmp .eq 8, 3) := by decide +kernel
theorem dX5_answer_10 : decode cX5_answer 10 = .ok (.aload_n 0, 1) := by decide +kernel
theorem dX5_answer_11 : decode cX5_answer 11 = .ok (.iload_n 2, 1) := by decide +kernel
theorem dX5_answer_12 : decode cX5_answer 12 = .ok (.invokevirtual 69, 3) := by decide +kernel
theorem dX5_answer_15 : decode cX5_answer 15 = .ok (.aload_n 0, 1) := by decide +kernel
theorem dX5_answer_16 : decode cX5_answer 16 = .ok (.getfield 50, 3) := by decide +kernel
theorem dX5_answer_19 : decode cX5_answer 19 = .ok (.iload_n 1, 1) := by decide +kernel
theorem dX5_answer_20 : decode cX5_answer 20 = .ok (.iaload, 1) := by decide +kernel
theorem dX5_answer_21 : decode cX5_answer 21 = .ok (.iload_n 2, 1) := by decide +kernel
theorem dX5_answer_22 : decode cX5_answer 22 = .ok (.if_icmp .ne 5, 3) := by decide +kernel
theorem dX5_answer_25 : decode cX5_answer 25 = .ok (.iconst 0, 1) := by decide +kernel
theorem dX5_answer_26 : decode cX5_answer 26 = .ok (.ireturn, 1) := by decide +kernel
theorem dX5_answer_27 : decode cX5_answer 27 = .ok (.aload_n 0, 1) := by decide +kernel
theorem dX5_answer_28 : decode cX5_answer 28 = .ok (.getfield 50, 3) := by decide +kernel
theorem dX5_answer_31 : decode cX5_answer 31 = .ok (.iload_n 1, 1) := by decide +kernel
theorem dX5_answer_32 : decode cX5_answer 32 = .ok (.iload_n 2, 1) := by decide +kernel
theorem dX5_answer_33 : decode cX5_answer 33 = .ok (.iastore, 1) := by decide +kernel
theorem dX5_answer_34 : decode cX5_answer 34 = .ok (.iconst 1, 1) := by decide +kernel
theorem dX5_answer_35 : decode cX5_answer 35 = .ok (.ireturn, 1) := by decide +kernel
set_option maxRecDepth 20000 in
theorem ggX5_test_X5_needRule : GoodIn wsX5_test wsX5_needRule := goodIn_r _ [7, 1, 8, 9, 10, 11, 12, 13, 14, 15, 16, 67, 68, 69, 70, 71, 72, 73, 74, 75, 76, 77, 78, 79, 80, 81, 82, 83, 84, 85] (by decide +kernel) (by decide +kernel)
set_option maxRecDepth 20000 in
theorem gX5_test_X5_needRule : GoodIn wsX5_test (wsV RX5 58 RX5 yX5_needRule wsX5_needRule) := goodIn_app (goodIn_of _ (by decide +kernel)) ggX5_test_X5_needRule
set_option maxRecDepth 20000 in
theorem ggX5_test_X3_allSaid : GoodIn wsX5_test wsX3_allSaid := goodIn_r _ [20, 21, 22, 23, 24, 14, 25, 26, 79, 80, 81, 82, 83, 84, 85] (by decide +kernel) (by decide +kernel)
set_option maxRecDepth 20000 in
theorem gX5_test_X3_allSaid : GoodIn wsX5_test (wsV RX5 72 RX3 yX3_allSaid wsX3_allSaid) := goodIn_app (goodIn_of _ (by decide +kernel)) ggX5_test_X3_allSaid
set_option maxRecDepth 20000 in
theorem ggX5_test_X3_meets : GoodIn wsX5_test wsX3_meets := goodIn_r _ [30, 31, 32, 21, 33, 34, 35, 36, 14, 37, 22, 23, 24, 25, 26, 38, 39, 40, 41, 42, 43, 44, 45, 46, 47, 48, 49, 50, 51, 52, 53, 54, 55, 56, 57, 58, 59, 60, 61, 62, 63, 64, 65, 66, 79, 80, 81, 82, 83, 84, 85, 86, 87, 88, 89, 90] (by decide +kernel) (by decide +kernel)
set_option maxRecDepth 20000 in
theorem gX5_test_X3_meets : GoodIn wsX5_test (wsV RX5 76 RX3 yX3_meets wsX3_meets) := goodIn_app (goodIn_of _ (by decide +kernel)) ggX5_test_X3_meets
theorem dX5_test_0 : decode cX5_test 0 = .ok (.aload_n 0, 1) := by decide +kernel
theorem dX5_test_1 : decode cX5_test 1 = .ok (.iload_n 1, 1) := by decide +kernel
theorem dX5_test_2 : decode cX5_test 2 = .ok (.invokevirtual 58, 3) := by decide +kernel
theorem dX5_test_5 : decode cX5_test 5 = .ok (.aload_n 0, 1) := by decide +kernel
theorem dX5_test_6 : decode cX5_test 6 = .ok (.getfield 23, 3) := by decide +kernel
theorem dX5_test_9 : decode cX5_test 9 = .ok (.iload_n 1, 1) := by decide +kernel
theorem dX5_test_10 : decode cX5_test 10 = .ok (.aload_n 0, 1) := by decide +kernel
theorem dX5_test_11 : decode cX5_test 11 = .ok (.getfield 50, 3) := by decide +kernel
theorem dX5_test_14 : decode cX5_test 14 = .ok (.invokevirtual 72, 3) := by decide +kernel
theorem dX5_test_17 : decode cX5_test 17 = .ok (.ifCond .ne 5, 3) := by decide +kernel
theorem dX5_test_20 : decode cX5_test 20 = .ok (.iconst (-1), 1) := by decide +kernel
theorem dX5_test_21 : decode cX5_test 21 = .ok (.ireturn, 1) := by decide +kernel
theorem dX5_test_22 : decode cX5_test 22 = .ok (.aload_n 0, 1) := by decide +kernel
theorem dX5_test_23 : decode cX5_test 23 = .ok (.getfield 23, 3) := by decide +kernel
theorem dX5_test_26 : decode cX5_test 26 = .ok (.iload_n 1, 1) := by decide +kernel
theorem dX5_test_27 : decode cX5_test 27 = .ok (.aload_n 0, 1) := by decide +kernel
theorem dX5_test_28 : decode cX5_test 28 = .ok (.getfield 50, 3) := by decide +kernel
theorem dX5_test_31 : decode cX5_test 31 = .ok (.invokevirtual 76, 3) := by decide +kernel
theorem dX5_test_34 : decode cX5_test 34 = .ok (.ifCond .eq 7, 3) := by decide +kernel
theorem dX5_test_37 : decode cX5_test 37 = .ok (.iconst 1, 1) := by decide +kernel
theorem dX5_test_38 : decode cX5_test 38 = .ok (.goto 4, 3) := by decide +kernel
theorem dX5_test_41 : decode cX5_test 41 = .ok (.iconst 0, 1) := by decide +kernel
theorem dX5_test_42 : decode cX5_test 42 = .ok (.ireturn, 1) := by decide +kernel
set_option maxRecDepth 20000 in
theorem ggX5_fails_X3_count : GoodIn wsX5_fails wsX3_count := goodIn_r _ [7, 8, 65, 66, 67, 68, 69, 70, 71] (by decide +kernel) (by decide +kernel)
set_option maxRecDepth 20000 in
theorem gX5_fails_X3_count : GoodIn wsX5_fails (wsV RX5 79 RX3 yX3_count wsX3_count) := goodIn_app (goodIn_of _ (by decide +kernel)) ggX5_fails_X3_count
set_option maxRecDepth 20000 in
theorem ggX5_fails_X3_allSaid : GoodIn wsX5_fails wsX3_allSaid := goodIn_r _ [12, 13, 14, 15, 16, 6, 17, 18, 65, 66, 67, 68, 69, 70, 71] (by decide +kernel) (by decide +kernel)
set_option maxRecDepth 20000 in
theorem gX5_fails_X3_allSaid : GoodIn wsX5_fails (wsV RX5 72 RX3 yX3_allSaid wsX3_allSaid) := goodIn_app (goodIn_of _ (by decide +kernel)) ggX5_fails_X3_allSaid
set_option maxRecDepth 20000 in
theorem ggX5_fails_X3_meets : GoodIn wsX5_fails wsX3_meets := goodIn_r _ [22, 23, 24, 13, 25, 26, 27, 28, 6, 29, 14, 15, 16, 17, 18, 30, 31, 32, 33, 34, 35, 36, 37, 38, 39, 40, 41, 42, 43, 44, 45, 46, 47, 48, 49, 50, 51, 52, 53, 54, 55, 56, 57, 58, 65, 66, 67, 68, 69, 70, 71, 72, 73, 74, 75, 76] (by decide +kernel) (by decide +kernel)
set_option maxRecDepth 20000 in
theorem gX5_fails_X3_meets : GoodIn wsX5_fails (wsV RX5 76 RX3 yX3_meets wsX3_meets) := goodIn_app (goodIn_of _ (by decide +kernel)) ggX5_fails_X3_meets
theorem dX5_fails_0 : decode cX5_fails 0 = .ok (.iconst 0, 1) := by decide +kernel
theorem dX5_fails_1 : decode cX5_fails 1 = .ok (.istore_n 1, 1) := by decide +kernel
theorem dX5_fails_2 : decode cX5_fails 2 = .ok (.iload_n 1, 1) := by decide +kernel
theorem dX5_fails_3 : decode cX5_fails 3 = .ok (.aload_n 0, 1) := by decide +kernel
theorem dX5_fails_4 : decode cX5_fails 4 = .ok (.getfield 23, 3) := by decide +kernel
theorem dX5_fails_7 : decode cX5_fails 7 = .ok (.invokevirtual 79, 3) := by decide +kernel
theorem dX5_fails_10 : decode cX5_fails 10 = .ok (.if_icmp .ge 41, 3) := by decide +kernel
theorem dX5_fails_13 : decode cX5_fails 13 = .ok (.aload_n 0, 1) := by decide +kernel
theorem dX5_fails_14 : decode cX5_fails 14 = .ok (.getfield 23, 3) := by decide +kernel
theorem dX5_fails_17 : decode cX5_fails 17 = .ok (.iload_n 1, 1) := by decide +kernel
theorem dX5_fails_18 : decode cX5_fails 18 = .ok (.aload_n 0, 1) := by decide +kernel
theorem dX5_fails_19 : decode cX5_fails 19 = .ok (.getfield 50, 3) := by decide +kernel
theorem dX5_fails_22 : decode cX5_fails 22 = .ok (.invokevirtual 72, 3) := by decide +kernel
theorem dX5_fails_25 : decode cX5_fails 25 = .ok (.ifCond .eq 18, 3) := by decide +kernel
theorem dX5_fails_28 : decode cX5_fails 28 = .ok (.aload_n 0, 1) := by decide +kernel
theorem dX5_fails_29 : decode cX5_fails 29 = .ok (.getfield 23, 3) := by decide +kernel
theorem dX5_fails_32 : decode cX5_fails 32 = .ok (.iload_n 1, 1) := by decide +kernel
theorem dX5_fails_33 : decode cX5_fails 33 = .ok (.aload_n 0, 1) := by decide +kernel
theorem dX5_fails_34 : decode cX5_fails 34 = .ok (.getfield 50, 3) := by decide +kernel
theorem dX5_fails_37 : decode cX5_fails 37 = .ok (.invokevirtual 76, 3) := by decide +kernel
theorem dX5_fails_40 : decode cX5_fails 40 = .ok (.ifCond .ne 5, 3) := by decide +kernel
theorem dX5_fails_43 : decode cX5_fails 43 = .ok (.iload_n 1, 1) := by decide +kernel
theorem dX5_fails_44 : decode cX5_fails 44 = .ok (.ireturn, 1) := by decide +kernel
theorem dX5_fails_45 : decode cX5_fails 45 = .ok (.iinc 1 1, 3) := by decide +kernel
theorem dX5_fails_48 : decode cX5_fails 48 = .ok (.goto (-46), 3) := by decide +kernel
theorem dX5_fails_51 : decode cX5_fails 51 = .ok (.iconst (-1), 1) := by decide +kernel
theorem dX5_fails_52 : decode cX5_fails 52 = .ok (.ireturn, 1) := by decide +kernel
set_option maxRecDepth 20000 in
theorem ggX5_line_X1_isFull : GoodIn wsX5_line wsX1_isFull := goodIn_r _ [6, 7, 30, 31, 32, 33, 34] (by decide +kernel) (by decide +kernel)
set_option maxRecDepth 20000 in
theorem gX5_line_X1_isFull : GoodIn wsX5_line (wsV RX5 83 RX1 yX1_isFull wsX1_isFull) := goodIn_app (goodIn_of _ (by decide +kernel)) ggX5_line_X1_isFull
set_option maxRecDepth 20000 in
theorem ggX5_line_X1_startDraft : GoodIn wsX5_line wsX1_startDraft := goodIn_r _ [11, 12, 7, 13, 14, 30, 31, 32, 33, 34] (by decide +kernel) (by decide +kernel)
set_option maxRecDepth 20000 in
theorem gX5_line_X1_startDraft : GoodIn wsX5_line (wsV RX5 87 RX1 yX1_startDraft wsX1_startDraft) := goodIn_app (goodIn_of _ (by decide +kernel)) ggX5_line_X1_startDraft
set_option maxRecDepth 20000 in
theorem ggX5_line_X1_keepDraft : GoodIn wsX5_line wsX1_keepDraft := goodIn_r _ [18, 7, 19, 3, 4, 5, 6, 30, 31, 32, 33, 34] (by decide +kernel) (by decide +kernel)
set_option maxRecDepth 20000 in
theorem gX5_line_X1_keepDraft : GoodIn wsX5_line (wsV RX5 91 RX1 yX1_keepDraft wsX1_keepDraft) := goodIn_app (goodIn_of _ (by decide +kernel)) ggX5_line_X1_keepDraft
set_option maxRecDepth 20000 in
theorem ggX5_line_X1_count : GoodIn wsX5_line wsX1_count := goodIn_r _ [23, 7, 30, 31, 32, 33, 34] (by decide +kernel) (by decide +kernel)
set_option maxRecDepth 20000 in
theorem gX5_line_X1_count : GoodIn wsX5_line (wsV RX5 94 RX1 yX1_count wsX1_count) := goodIn_app (goodIn_of _ (by decide +kernel)) ggX5_line_X1_count
theorem dX5_line_0 : decode cX5_line 0 = .ok (.iload_n 1, 1) := by decide +kernel
theorem dX5_line_1 : decode cX5_line 1 = .ok (.ifCond .lt 18, 3) := by decide +kernel
theorem dX5_line_4 : decode cX5_line 4 = .ok (.iload_n 1, 1) := by decide +kernel
theorem dX5_line_5 : decode cX5_line 5 = .ok (.iconst 3, 1) := by decide +kernel
theorem dX5_line_6 : decode cX5_line 6 = .ok (.if_icmp .gt 13, 3) := by decide +kernel
theorem dX5_line_9 : decode cX5_line 9 = .ok (.aload_n 0, 1) := by decide +kernel
theorem dX5_line_10 : decode cX5_line 10 = .ok (.getfield 30, 3) := by decide +kernel
theorem dX5_line_13 : decode cX5_line 13 = .ok (.invokevirtual 83, 3) := by decide +kernel
theorem dX5_line_16 : decode cX5_line 16 = .ok (.ifCond .eq 5, 3) := by decide +kernel
theorem dX5_line_19 : decode cX5_line 19 = .ok (.iconst (-1), 1) := by decide +kernel
theorem dX5_line_20 : decode cX5_line 20 = .ok (.ireturn, 1) := by decide +kernel
theorem dX5_line_21 : decode cX5_line 21 = .ok (.aload_n 0, 1) := by decide +kernel
theorem dX5_line_22 : decode cX5_line 22 = .ok (.getfield 30, 3) := by decide +kernel
theorem dX5_line_25 : decode cX5_line 25 = .ok (.iload_n 1, 1) := by decide +kernel
theorem dX5_line_26 : decode cX5_line 26 = .ok (.iload_n 2, 1) := by decide +kernel
theorem dX5_line_27 : decode cX5_line 27 = .ok (.invokevirtual 87, 3) := by decide +kernel
theorem dX5_line_30 : decode cX5_line 30 = .ok (.aload_n 0, 1) := by decide +kernel
theorem dX5_line_31 : decode cX5_line 31 = .ok (.getfield 30, 3) := by decide +kernel
theorem dX5_line_34 : decode cX5_line 34 = .ok (.invokevirtual 91, 3) := by decide +kernel
theorem dX5_line_37 : decode cX5_line 37 = .ok (.pop, 1) := by decide +kernel
theorem dX5_line_38 : decode cX5_line 38 = .ok (.aload_n 0, 1) := by decide +kernel
theorem dX5_line_39 : decode cX5_line 39 = .ok (.getfield 30, 3) := by decide +kernel
theorem dX5_line_42 : decode cX5_line 42 = .ok (.invokevirtual 94, 3) := by decide +kernel
theorem dX5_line_45 : decode cX5_line 45 = .ok (.iconst 1, 1) := by decide +kernel
theorem dX5_line_46 : decode cX5_line 46 = .ok (.isub, 1) := by decide +kernel
theorem dX5_line_47 : decode cX5_line 47 = .ok (.ireturn, 1) := by decide +kernel
set_option maxRecDepth 20000 in
theorem ggX5_literal_X5_needCell : GoodIn wsX5_literal wsX5_needCell := goodIn_r _ [6, 7, 8, 9, 10, 11, 12, 13, 14, 15, 16, 51, 52, 53, 54, 55, 56, 57, 58, 59, 60, 61, 62, 63, 64, 65, 66, 67] (by decide +kernel) (by decide +kernel)
set_option maxRecDepth 20000 in
theorem gX5_literal_X5_needCell : GoodIn wsX5_literal (wsV RX5 62 RX5 yX5_needCell wsX5_needCell) := goodIn_app (goodIn_of _ (by decide +kernel)) ggX5_literal_X5_needCell
set_option maxRecDepth 20000 in
theorem ggX5_literal_X5_needSymbol : GoodIn wsX5_literal wsX5_needSymbol := goodIn_ca (goodIn_r _ [20, 21, 22, 7, 23, 24, 25, 14, 26, 27, 51, 52, 53, 54, 55, 56, 63, 64, 65, 66, 67] (by decide +kernel) (by decide +kernel)) (goodIn_sub (fun _ h => List.mem_cons_of_mem _ (List.mem_append_right _ h)) (by decide +kernel))
set_option maxRecDepth 20000 in
theorem gX5_literal_X5_needSymbol : GoodIn wsX5_literal (wsV RX5 69 RX5 yX5_needSymbol wsX5_needSymbol) := goodIn_app (goodIn_of _ (by decide +kernel)) ggX5_literal_X5_needSymbol
set_option maxRecDepth 20000 in
theorem ggX5_literal_X1_count : GoodIn wsX5_literal wsX1_count := goodIn_r _ [32, 33, 68, 69, 70, 71, 72] (by decide +kernel) (by decide +kernel)
set_option maxRecDepth 20000 in
theorem gX5_literal_X1_count : GoodIn wsX5_literal (wsV RX5 94 RX1 yX1_count wsX1_count) := goodIn_app (goodIn_of _ (by decide +kernel)) ggX5_literal_X1_count
set_option maxRecDepth 20000 in
theorem ggX5_literal_X1_literalOf : GoodIn wsX5_literal wsX1_literalOf := goodIn_r _ [36] (by decide +kernel) (by decide +kernel)
set_option maxRecDepth 20000 in
theorem gX5_literal_X1_literalOf : GoodIn wsX5_literal (va_wsS RX5 95 yX1_literalOf wsX1_literalOf) := goodIn_app (goodIn_of _ (by decide +kernel)) ggX5_literal_X1_literalOf
set_option maxRecDepth 20000 in
theorem ggX5_literal_X1_addLiteral : GoodIn wsX5_literal wsX1_addLiteral := goodIn_r _ [40, 41, 42, 43, 44, 45, 31, 46, 47, 48, 49, 50, 68, 69, 70, 71, 72] (by decide +kernel) (by decide +kernel)
set_option maxRecDepth 20000 in
theorem gX5_literal_X1_addLiteral : GoodIn wsX5_literal (wsV RX5 99 RX1 yX1_addLiteral wsX1_addLiteral) := goodIn_app (goodIn_of _ (by decide +kernel)) ggX5_literal_X1_addLiteral
theorem dX5_literal_0 : decode cX5_literal 0 = .ok (.aload_n 0, 1) := by decide +kernel
theorem dX5_literal_1 : decode cX5_literal 1 = .ok (.iload_n 1, 1) := by decide +kernel
theorem dX5_literal_2 : decode cX5_literal 2 = .ok (.invokevirtual 62, 3) := by decide +kernel
theorem dX5_literal_5 : decode cX5_literal 5 = .ok (.aload_n 0, 1) := by decide +kernel
theorem dX5_literal_6 : decode cX5_literal 6 = .ok (.iload_n 2, 1) := by decide +kernel
theorem dX5_literal_7 : decode cX5_literal 7 = .ok (.invokevirtual 69, 3) := by decide +kernel
theorem dX5_literal_10 : decode cX5_literal 10 = .ok (.aload_n 0, 1) := by decide +kernel
theorem dX5_literal_11 : decode cX5_literal 11 = .ok (.getfield 30, 3) := by decide +kernel
theorem dX5_literal_14 : decode cX5_literal 14 = .ok (.invokevirtual 94, 3) := by decide +kernel
theorem dX5_literal_17 : decode cX5_literal 17 = .ok (.ifCond .ne 5, 3) := by decide +kernel
theorem dX5_literal_20 : decode cX5_literal 20 = .ok (.iconst 0, 1) := by decide +kernel
theorem dX5_literal_21 : decode cX5_literal 21 = .ok (.ireturn, 1) := by decide +kernel
theorem dX5_literal_22 : decode cX5_literal 22 = .ok (.aload_n 0, 1) := by decide +kernel
theorem dX5_literal_23 : decode cX5_literal 23 = .ok (.getfield 30, 3) := by decide +kernel
theorem dX5_literal_26 : decode cX5_literal 26 = .ok (.aload_n 0, 1) := by decide +kernel
theorem dX5_literal_27 : decode cX5_literal 27 = .ok (.getfield 30, 3) := by decide +kernel
theorem dX5_literal_30 : decode cX5_literal 30 = .ok (.invokevirtual 94, 3) := by decide +kernel
theorem dX5_literal_33 : decode cX5_literal 33 = .ok (.iconst 1, 1) := by decide +kernel
theorem dX5_literal_34 : decode cX5_literal 34 = .ok (.isub, 1) := by decide +kernel
theorem dX5_literal_35 : decode cX5_literal 35 = .ok (.iload_n 1, 1) := by decide +kernel
theorem dX5_literal_36 : decode cX5_literal 36 = .ok (.iload_n 2, 1) := by decide +kernel
theorem dX5_literal_37 : decode cX5_literal 37 = .ok (.iload_n 3, 1) := by decide +kernel
theorem dX5_literal_38 : decode cX5_literal 38 = .ok (.invokestatic 95, 3) := by decide +kernel
theorem dX5_literal_41 : decode cX5_literal 41 = .ok (.invokevirtual 99, 3) := by decide +kernel
theorem dX5_literal_44 : decode cX5_literal 44 = .ok (.ireturn, 1) := by decide +kernel
set_option maxRecDepth 20000 in
theorem ggX5_drop_X1_count : GoodIn wsX5_drop wsX1_count := goodIn_r _ [6, 7, 18, 19, 20, 21, 22] (by decide +kernel) (by decide +kernel)
set_option maxRecDepth 20000 in
theorem gX5_drop_X1_count : GoodIn wsX5_drop (wsV RX5 94 RX1 yX1_count wsX1_count) := goodIn_app (goodIn_of _ (by decide +kernel)) ggX5_drop_X1_count
set_option maxRecDepth 20000 in
theorem ggX5_drop_X1_cutTo : GoodIn wsX5_drop wsX1_cutTo := goodIn_r _ [11, 7, 18, 19, 20, 21, 22] (by decide +kernel) (by decide +kernel)
set_option maxRecDepth 20000 in
theorem gX5_drop_X1_cutTo : GoodIn wsX5_drop (wsV RX5 102 RX1 yX1_cutTo wsX1_cutTo) := goodIn_app (goodIn_of _ (by decide +kernel)) ggX5_drop_X1_cutTo
theorem dX5_drop_0 : decode cX5_drop 0 = .ok (.aload_n 0, 1) := by decide +kernel
theorem dX5_drop_1 : decode cX5_drop 1 = .ok (.getfield 30, 3) := by decide +kernel
theorem dX5_drop_4 : decode cX5_drop 4 = .ok (.invokevirtual 94, 3) := by decide +kernel
theorem dX5_drop_7 : decode cX5_drop 7 = .ok (.ifCond .ne 5, 3) := by decide +kernel
theorem dX5_drop_10 : decode cX5_drop 10 = .ok (.iconst 0, 1) := by decide +kernel
theorem dX5_drop_11 : decode cX5_drop 11 = .ok (.ireturn, 1) := by decide +kernel
theorem dX5_drop_12 : decode cX5_drop 12 = .ok (.aload_n 0, 1) := by decide +kernel
theorem dX5_drop_13 : decode cX5_drop 13 = .ok (.getfield 30, 3) := by decide +kernel
theorem dX5_drop_16 : decode cX5_drop 16 = .ok (.aload_n 0, 1) := by decide +kernel
theorem dX5_drop_17 : decode cX5_drop 17 = .ok (.getfield 30, 3) := by decide +kernel
theorem dX5_drop_20 : decode cX5_drop 20 = .ok (.invokevirtual 94, 3) := by decide +kernel
theorem dX5_drop_23 : decode cX5_drop 23 = .ok (.iconst 1, 1) := by decide +kernel
theorem dX5_drop_24 : decode cX5_drop 24 = .ok (.isub, 1) := by decide +kernel
theorem dX5_drop_25 : decode cX5_drop 25 = .ok (.invokevirtual 102, 3) := by decide +kernel
theorem dX5_drop_28 : decode cX5_drop 28 = .ok (.iconst 1, 1) := by decide +kernel
theorem dX5_drop_29 : decode cX5_drop 29 = .ok (.ireturn, 1) := by decide +kernel
set_option maxRecDepth 20000 in
theorem ggX5_check_X1_count : GoodIn wsX5_check wsX1_count := goodIn_r _ [6, 7, 213, 214, 215, 216, 217] (by decide +kernel) (by decide +kernel)
set_option maxRecDepth 20000 in
theorem gX5_check_X1_count : GoodIn wsX5_check (wsV RX5 94 RX1 yX1_count wsX1_count) := goodIn_app (goodIn_of _ (by decide +kernel)) ggX5_check_X1_count
set_option maxRecDepth 20000 in
theorem ggX5_check_X5_followsFromLinesAhead : GoodIn wsX5_check wsX5_followsFromLinesAhead := goodIn_r _ [12, 1, 13, 14, 15, 16, 17, 18, 5, 19, 20, 21, 22, 23, 24, 25, 26, 27, 28, 29, 30, 31, 32, 33, 34, 11, 35, 36, 37, 38, 39, 40, 41, 42, 43, 44, 45, 46, 47, 48, 49, 50, 51, 52, 53, 54, 55, 56, 57, 58, 59, 60, 61, 62, 63, 64, 65, 66, 67, 68, 69, 70, 71, 72, 73, 74, 75, 76, 77, 78, 79, 80, 81, 82, 83, 84, 85, 86, 87, 88, 89, 90, 91, 92, 93, 94, 95, 96, 97, 98, 99, 100, 101, 102, 103, 104, 105, 106, 107, 108, 109, 110, 111, 112, 113, 114, 115, 116, 117, 118, 119, 120, 121, 122, 123, 124, 125, 126, 127, 128, 129, 130, 131, 132, 133, 134, 135, 136, 137, 138, 139, 140, 141, 142, 143, 144, 145, 146, 147, 148, 149, 150, 151, 152, 153, 154, 155, 156, 157, 158, 159, 160, 161, 162, 163, 164, 165, 166, 167, 168, 169, 170, 171, 172, 173, 174, 175, 176, 177, 178, 179, 180, 181, 182, 183, 184, 185, 186, 187, 188, 189, 190, 191, 192, 193, 194, 195, 196, 197, 198, 199, 200, 201, 202, 203, 204, 205, 206, 207, 208, 209, 210, 211, 212, 213, 214, 215, 216, 217, 218, 219, 220, 221, 222, 223, 224, 225, 226, 227, 228, 229, 230, 231, 232, 233] (by decide +kernel) (by decide +kernel)
set_option maxRecDepth 20000 in
theorem gX5_check_X5_followsFromLinesAhead : GoodIn wsX5_check (wsV RX5 105 RX5 yX5_followsFromLinesAhead wsX5_followsFromLinesAhead) := goodIn_app (goodIn_of _ (by decide +kernel)) ggX5_check_X5_followsFromLinesAhead
theorem dX5_check_0 : decode cX5_check 0 = .ok (.iconst 0, 1) := by decide +kernel
theorem dX5_check_1 : decode cX5_check 1 = .ok (.istore_n 1, 1) := by decide +kernel
theorem dX5_check_2 : decode cX5_check 2 = .ok (.iload_n 1, 1) := by decide +kernel
theorem dX5_check_3 : decode cX5_check 3 = .ok (.aload_n 0, 1) := by decide +kernel
theorem dX5_check_4 : decode cX5_check 4 = .ok (.getfield 30, 3) := by decide +kernel
theorem dX5_check_7 : decode cX5_check 7 = .ok (.invokevirtual 94, 3) := by decide +kernel
theorem dX5_check_10 : decode cX5_check 10 = .ok (.if_icmp .ge 17, 3) := by decide +kernel
theorem dX5_check_13 : decode cX5_check 13 = .ok (.aload_n 0, 1) := by decide +kernel
theorem dX5_check_14 : decode cX5_check 14 = .ok (.iload_n 1, 1) := by decide +kernel
theorem dX5_check_15 : decode cX5_check 15 = .ok (.invokevirtual 105, 3) := by decide +kernel
theorem dX5_check_18 : decode cX5_check 18 = .ok (.ifCond .eq 9, 3) := by decide +kernel
theorem dX5_check_21 : decode cX5_check 21 = .ok (.iinc 1 1, 3) := by decide +kernel
theorem dX5_check_24 : decode cX5_check 24 = .ok (.goto (-22), 3) := by decide +kernel
theorem dX5_check_27 : decode cX5_check 27 = .ok (.iload_n 1, 1) := by decide +kernel
theorem dX5_check_28 : decode cX5_check 28 = .ok (.ireturn, 1) := by decide +kernel
set_option maxRecDepth 20000 in
theorem ggX5_proves_X1_count : GoodIn wsX5_proves wsX1_count := goodIn_r _ [6, 7, 213, 214, 215, 216, 217] (by decide +kernel) (by decide +kernel)
set_option maxRecDepth 20000 in
theorem gX5_proves_X1_count : GoodIn wsX5_proves (wsV RX5 94 RX1 yX1_count wsX1_count) := goodIn_app (goodIn_of _ (by decide +kernel)) ggX5_proves_X1_count
set_option maxRecDepth 20000 in
theorem ggX5_proves_X1_sizeOf : GoodIn wsX5_proves wsX1_sizeOf := goodIn_r _ [11, 12, 213, 214, 215, 216, 217] (by decide +kernel) (by decide +kernel)
set_option maxRecDepth 20000 in
theorem gX5_proves_X1_sizeOf : GoodIn wsX5_proves (wsV RX5 109 RX1 yX1_sizeOf wsX1_sizeOf) := goodIn_app (goodIn_of _ (by decide +kernel)) ggX5_proves_X1_sizeOf
set_option maxRecDepth 20000 in
theorem ggX5_proves_X5_followsFromLinesAhead : GoodIn wsX5_proves wsX5_followsFromLinesAhead := goodIn_r _ [17, 1, 18, 19, 20, 21, 22, 23, 5, 24, 25, 26, 27, 28, 29, 30, 31, 32, 33, 34, 35, 36, 37, 38, 39, 16, 40, 41, 42, 43, 44, 45, 46, 47, 48, 49, 50, 51, 52, 53, 54, 55, 56, 57, 58, 59, 60, 61, 62, 63, 64, 65, 66, 67, 68, 69, 70, 71, 72, 73, 74, 9, 10, 11, 12, 75, 76, 77, 78, 79, 80, 81, 82, 83, 84, 85, 86, 87, 88, 89, 90, 91, 92, 93, 94, 95, 96, 97, 98, 99, 100, 101, 102, 103, 104, 105, 106, 107, 108, 109, 110, 111, 112, 113, 114, 115, 116, 117, 118, 119, 120, 121, 122, 123, 124, 125, 126, 127, 128, 129, 130, 131, 132, 133, 134, 135, 136, 137, 138, 139, 140, 141, 142, 143, 144, 145, 146, 147, 148, 149, 150, 151, 152, 153, 154, 155, 156, 157, 158, 159, 160, 161, 162, 163, 164, 165, 166, 167, 168, 169, 170, 171, 172, 173, 174, 175, 176, 177, 178, 179, 180, 181, 182, 183, 8, 184, 185, 186, 187, 188, 189, 190, 191, 192, 193, 194, 195, 196, 197, 198, 199, 200, 201, 202, 203, 204, 205, 206, 207, 208, 209, 210, 211, 212, 213, 214, 215, 216, 217, 218, 219, 220, 221, 222, 223, 224, 225, 226, 227, 228, 229, 230, 231, 232, 233] (by decide +kernel) (by decide +kernel)
set_option maxRecDepth 20000 in
theorem gX5_proves_X5_followsFromLinesAhead : GoodIn wsX5_proves (wsV RX5 105 RX5 yX5_followsFromLinesAhead wsX5_followsFromLinesAhead) := goodIn_app (goodIn_of _ (by decide +kernel)) ggX5_proves_X5_followsFromLinesAhead
set_option maxRecDepth 20000 in
theorem ggX5_proves_X1_kindOf : GoodIn wsX5_proves wsX1_kindOf := goodIn_r _ [29, 30, 213, 214, 215, 216, 217] (by decide +kernel) (by decide +kernel)
set_option maxRecDepth 20000 in
theorem gX5_proves_X1_kindOf : GoodIn wsX5_proves (wsV RX5 113 RX1 yX1_kindOf wsX1_kindOf) := goodIn_app (goodIn_of _ (by decide +kernel)) ggX5_proves_X1_kindOf
theorem dX5_proves_0 : decode cX5_proves 0 = .ok (.aload_n 0, 1) := by decide +kernel
theorem dX5_proves_1 : decode cX5_proves 1 = .ok (.getfield 30, 3) := by decide +kernel
theorem dX5_proves_4 : decode cX5_proves 4 = .ok (.invokevirtual 94, 3) := by decide +kernel
theorem dX5_proves_7 : decode cX5_proves 7 = .ok (.istore_n 1, 1) := by decide +kernel
theorem dX5_proves_8 : decode cX5_proves 8 = .ok (.iload_n 1, 1) := by decide +kernel
theorem dX5_proves_9 : decode cX5_proves 9 = .ok (.ifCond .eq 16, 3) := by decide +kernel
theorem dX5_proves_12 : decode cX5_proves 12 = .ok (.aload_n 0, 1) := by decide +kernel
theorem dX5_proves_13 : decode cX5_proves 13 = .ok (.getfield 30, 3) := by decide +kernel
theorem dX5_proves_16 : decode cX5_proves 16 = .ok (.iload_n 1, 1) := by decide +kernel
theorem dX5_proves_17 : decode cX5_proves 17 = .ok (.iconst 1, 1) := by decide +kernel
theorem dX5_proves_18 : decode cX5_proves 18 = .ok (.isub, 1) := by decide +kernel
theorem dX5_proves_19 : decode cX5_proves 19 = .ok (.invokevirtual 109, 3) := by decide +kernel
theorem dX5_proves_22 : decode cX5_proves 22 = .ok (.ifCond .eq 5, 3) := by decide +kernel
theorem dX5_proves_25 : decode cX5_proves 25 = .ok (.iconst 0, 1) := by decide +kernel
theorem dX5_proves_26 : decode cX5_proves 26 = .ok (.ireturn, 1) := by decide +kernel
theorem dX5_proves_27 : decode cX5_proves 27 = .ok (.iconst 1, 1) := by decide +kernel
theorem dX5_proves_28 : decode cX5_proves 28 = .ok (.istore_n 2, 1) := by decide +kernel
theorem dX5_proves_29 : decode cX5_proves 29 = .ok (.iconst 0, 1) := by decide +kernel
theorem dX5_proves_30 : decode cX5_proves 30 = .ok (.istore_n 3, 1) := by decide +kernel
theorem dX5_proves_31 : decode cX5_proves 31 = .ok (.iload_n 3, 1) := by decide +kernel
theorem dX5_proves_32 : decode cX5_proves 32 = .ok (.iload_n 1, 1) := by decide +kernel
theorem dX5_proves_33 : decode cX5_proves 33 = .ok (.if_icmp .ge 33, 3) := by decide +kernel
theorem dX5_proves_36 : decode cX5_proves 36 = .ok (.aload_n 0, 1) := by decide +kernel
theorem dX5_proves_37 : decode cX5_proves 37 = .ok (.iload_n 3, 1) := by decide +kernel
theorem dX5_proves_38 : decode cX5_proves 38 = .ok (.invokevirtual 105, 3) := by decide +kernel
theorem dX5_proves_41 : decode cX5_proves 41 = .ok (.ifCond .ne 5, 3) := by decide +kernel
theorem dX5_proves_44 : decode cX5_proves 44 = .ok (.iconst 0, 1) := by decide +kernel
theorem dX5_proves_45 : decode cX5_proves 45 = .ok (.ireturn, 1) := by decide +kernel
theorem dX5_proves_46 : decode cX5_proves 46 = .ok (.aload_n 0, 1) := by decide +kernel
theorem dX5_proves_47 : decode cX5_proves 47 = .ok (.getfield 30, 3) := by decide +kernel
theorem dX5_proves_50 : decode cX5_proves 50 = .ok (.iload_n 3, 1) := by decide +kernel
theorem dX5_proves_51 : decode cX5_proves 51 = .ok (.invokevirtual 113, 3) := by decide +kernel
theorem dX5_proves_54 : decode cX5_proves 54 = .ok (.iconst 3, 1) := by decide +kernel
theorem dX5_proves_55 : decode cX5_proves 55 = .ok (.if_icmp .ne 5, 3) := by decide +kernel
theorem dX5_proves_58 : decode cX5_proves 58 = .ok (.iconst 2, 1) := by decide +kernel
theorem dX5_proves_59 : decode cX5_proves 59 = .ok (.istore_n 2, 1) := by decide +kernel
theorem dX5_proves_60 : decode cX5_proves 60 = .ok (.iinc 3 1, 3) := by decide +kernel
theorem dX5_proves_63 : decode cX5_proves 63 = .ok (.goto (-32), 3) := by decide +kernel
theorem dX5_proves_66 : decode cX5_proves 66 = .ok (.iload_n 2, 1) := by decide +kernel
theorem dX5_proves_67 : decode cX5_proves 67 = .ok (.ireturn, 1) := by decide +kernel
set_option maxRecDepth 20000 in
theorem ggX5_tell_X1_count : GoodIn wsX5_tell wsX1_count := goodIn_r _ [9, 10, 64, 65, 66, 67, 68] (by decide +kernel) (by decide +kernel)
set_option maxRecDepth 20000 in
theorem gX5_tell_X1_count : GoodIn wsX5_tell (wsV RX5 94 RX1 yX1_count wsX1_count) := goodIn_app (goodIn_of _ (by decide +kernel)) ggX5_tell_X1_count
set_option maxRecDepth 20000 in
theorem ggX5_tell_X1_kindOf : GoodIn wsX5_tell wsX1_kindOf := goodIn_r _ [14, 15, 64, 65, 66, 67, 68] (by decide +kernel) (by decide +kernel)
set_option maxRecDepth 20000 in
theorem gX5_tell_X1_kindOf : GoodIn wsX5_tell (wsV RX5 113 RX1 yX1_kindOf wsX1_kindOf) := goodIn_app (goodIn_of _ (by decide +kernel)) ggX5_tell_X1_kindOf
set_option maxRecDepth 20000 in
theorem ggX5_tell_X1_numberOf : GoodIn wsX5_tell wsX1_numberOf := goodIn_r _ [19, 20, 64, 65, 66, 67, 68] (by decide +kernel) (by decide +kernel)
set_option maxRecDepth 20000 in
theorem gX5_tell_X1_numberOf : GoodIn wsX5_tell (wsV RX5 123 RX1 yX1_numberOf wsX1_numberOf) := goodIn_app (goodIn_of _ (by decide +kernel)) ggX5_tell_X1_numberOf
set_option maxRecDepth 20000 in
theorem ggX5_tell_X1_sizeOf : GoodIn wsX5_tell wsX1_sizeOf := goodIn_r _ [24, 25, 64, 65, 66, 67, 68] (by decide +kernel) (by decide +kernel)
set_option maxRecDepth 20000 in
theorem gX5_tell_X1_sizeOf : GoodIn wsX5_tell (wsV RX5 109 RX1 yX1_sizeOf wsX1_sizeOf) := goodIn_app (goodIn_of _ (by decide +kernel)) ggX5_tell_X1_sizeOf
set_option maxRecDepth 20000 in
theorem ggX5_tell_X5_toldLiteral : GoodIn wsX5_tell wsX5_toldLiteral := goodIn_r _ [30, 1, 31, 21, 22, 23, 8, 24, 25, 32, 33, 34, 35, 36, 37, 38, 39, 40, 41, 42, 43, 44, 45, 46, 47, 48, 49, 50, 51, 52, 53, 54, 55, 56, 57, 64, 65, 66, 67, 68, 69, 70, 71, 72, 73] (by decide +kernel) (by decide +kernel)
set_option maxRecDepth 20000 in
theorem gX5_tell_X5_toldLiteral : GoodIn wsX5_tell (wsV RX5 126 RX5 yX5_toldLiteral wsX5_toldLiteral) := goodIn_app (goodIn_of _ (by decide +kernel)) ggX5_tell_X5_toldLiteral
theorem dX5_tell_0 : decode cX5_tell 0 = .ok (.iload_n 1, 1) := by decide +kernel
theorem dX5_tell_1 : decode cX5_tell 1 = .ok (.ifCond .lt 14, 3) := by decide +kernel
theorem dX5_tell_4 : decode cX5_tell 4 = .ok (.iload_n 1, 1) := by decide +kernel
theorem dX5_tell_5 : decode cX5_tell 5 = .ok (.aload_n 0, 1) := by decide +kernel
theorem dX5_tell_6 : decode cX5_tell 6 = .ok (.getfield 30, 3) := by decide +kernel
theorem dX5_tell_9 : decode cX5_tell 9 = .ok (.invokevirtual 94, 3) := by decide +kernel
theorem dX5_tell_12 : decode cX5_tell 12 = .ok (.if_icmp .lt 13, 3) := by decide +kernel
theorem dX5_tell_15 : decode cX5_tell 15 = .ok (.new 116, 3) := by decide +kernel
theorem dX5_tell_18 : decode cX5_tell 18 = .ok (.dup, 1) := by decide +kernel
theorem dX5_tell_19 : decode cX5_tell 19 = .ok (.ldc 118, 2) := by decide +kernel
theorem dX5_tell_21 : decode cX5_tell 21 = .ok (.invokespecial 120, 3) := by decide +kernel
theorem dX5_tell_24 : decode cX5_tell 24 = .ok (.athrow, 1) := by decide +kernel
theorem dX5_tell_25 : decode cX5_tell 25 = .ok (.iload_n 2, 1) := by decide +kernel
theorem dX5_tell_26 : decode cX5_tell 26 = .ok (.tableswitch 53 0 2 #[26, 35, 44], 26) := by decide +kernel
theorem dX5_tell_52 : decode cX5_tell 52 = .ok (.aload_n 0, 1) := by decide +kernel
theorem dX5_tell_53 : decode cX5_tell 53 = .ok (.getfield 30, 3) := by decide +kernel
theorem dX5_tell_56 : decode cX5_tell 56 = .ok (.iload_n 1, 1) := by decide +kernel
theorem dX5_tell_57 : decode cX5_tell 57 = .ok (.invokevirtual 113, 3) := by decide +kernel
theorem dX5_tell_60 : decode cX5_tell 60 = .ok (.ireturn, 1) := by decide +kernel
theorem dX5_tell_61 : decode cX5_tell 61 = .ok (.aload_n 0, 1) := by decide +kernel
theorem dX5_tell_62 : decode cX5_tell 62 = .ok (.getfield 30, 3) := by decide +kernel
theorem dX5_tell_65 : decode cX5_tell 65 = .ok (.iload_n 1, 1) := by decide +kernel
theorem dX5_tell_66 : decode cX5_tell 66 = .ok (.invokevirtual 123, 3) := by decide +kernel
theorem dX5_tell_69 : decode cX5_tell 69 = .ok (.ireturn, 1) := by decide +kernel
theorem dX5_tell_70 : decode cX5_tell 70 = .ok (.aload_n 0, 1) := by decide +kernel
theorem dX5_tell_71 : decode cX5_tell 71 = .ok (.getfield 30, 3) := by decide +kernel
theorem dX5_tell_74 : decode cX5_tell 74 = .ok (.iload_n 1, 1) := by decide +kernel
theorem dX5_tell_75 : decode cX5_tell 75 = .ok (.invokevirtual 109, 3) := by decide +kernel
theorem dX5_tell_78 : decode cX5_tell 78 = .ok (.ireturn, 1) := by decide +kernel
theorem dX5_tell_79 : decode cX5_tell 79 = .ok (.aload_n 0, 1) := by decide +kernel
theorem dX5_tell_80 : decode cX5_tell 80 = .ok (.iload_n 1, 1) := by decide +kernel
theorem dX5_tell_81 : decode cX5_tell 81 = .ok (.iload_n 2, 1) := by decide +kernel
theorem dX5_tell_82 : decode cX5_tell 82 = .ok (.invokevirtual 126, 3) := by decide +kernel
theorem dX5_tell_85 : decode cX5_tell 85 = .ok (.ireturn, 1) := by decide +kernel
set_option maxRecDepth 20000 in
theorem ggX5_may_X5_needCell : GoodIn wsX5_may wsX5_needCell := goodIn_r _ [7, 8, 9, 10, 11, 12, 13, 14, 15, 16, 17, 88, 89, 90, 91, 92, 93, 94, 95, 96, 97, 98, 99, 100, 101, 102, 103, 104] (by decide +kernel) (by decide +kernel)
set_option maxRecDepth 20000 in
theorem gX5_may_X5_needCell : GoodIn wsX5_may (wsV RX5 62 RX5 yX5_needCell wsX5_needCell) := goodIn_app (goodIn_of _ (by decide +kernel)) ggX5_may_X5_needCell
set_option maxRecDepth 20000 in
theorem ggX5_may_X4_startWhole : GoodIn wsX5_may wsX4_startWhole := goodIn_r _ [22, 23, 24, 25, 26, 27, 15, 28, 17, 29, 30, 31, 32, 33, 105, 106, 107, 108, 100, 101, 102, 103, 104] (by decide +kernel) (by decide +kernel)
set_option maxRecDepth 20000 in
theorem gX5_may_X4_startWhole : GoodIn wsX5_may (wsV RX5 129 RX4 yX4_startWhole wsX4_startWhole) := goodIn_app (goodIn_of _ (by decide +kernel)) ggX5_may_X4_startWhole
set_option maxRecDepth 20000 in
theorem ggX5_may_X1_count : GoodIn wsX5_may wsX1_count := goodIn_r _ [38, 39, 109, 110, 111, 112, 113] (by decide +kernel) (by decide +kernel)
set_option maxRecDepth 20000 in
theorem gX5_may_X1_count : GoodIn wsX5_may (wsV RX5 94 RX1 yX1_count wsX1_count) := goodIn_app (goodIn_of _ (by decide +kernel)) ggX5_may_X1_count
set_option maxRecDepth 20000 in
theorem ggX5_may_X4_comeToNothing : GoodIn wsX5_may wsX4_comeToNothing := goodIn_r _ [43, 23, 44, 45, 46, 21, 47, 24, 25, 26, 27, 15, 28, 17, 48, 49, 50, 51, 33, 52, 53, 54, 55, 56, 57, 58, 59, 37, 60, 61, 62, 63, 64, 65, 66, 67, 68, 69, 70, 71, 72, 73, 74, 75, 76, 77, 78, 79, 80, 81, 82, 83, 105, 106, 107, 108, 100, 101, 102, 103, 104, 109, 110, 111, 112, 113] (by decide +kernel) (by decide +kernel)
set_option maxRecDepth 20000 in
theorem gX5_may_X4_comeToNothing : GoodIn wsX5_may (wsV RX5 132 RX4 yX4_comeToNothing wsX4_comeToNothing) := goodIn_app (goodIn_of _ (by decide +kernel)) ggX5_may_X4_comeToNothing
set_option maxRecDepth 20000 in
theorem ggX5_may_X4_symbolsOf : GoodIn wsX5_may wsX4_symbolsOf := goodIn_r _ [87, 24, 105, 106, 107, 108] (by decide +kernel) (by decide +kernel)
set_option maxRecDepth 20000 in
theorem gX5_may_X4_symbolsOf : GoodIn wsX5_may (wsV RX5 135 RX4 yX4_symbolsOf wsX4_symbolsOf) := goodIn_app (goodIn_of _ (by decide +kernel)) ggX5_may_X4_symbolsOf
theorem dX5_may_0 : decode cX5_may 0 = .ok (.aload_n 0, 1) := by decide +kernel
theorem dX5_may_1 : decode cX5_may 1 = .ok (.iload_n 1, 1) := by decide +kernel
theorem dX5_may_2 : decode cX5_may 2 = .ok (.invokevirtual 62, 3) := by decide +kernel
theorem dX5_may_5 : decode cX5_may 5 = .ok (.aload_n 0, 1) := by decide +kernel
theorem dX5_may_6 : decode cX5_may 6 = .ok (.getfield 39, 3) := by decide +kernel
theorem dX5_may_9 : decode cX5_may 9 = .ok (.invokevirtual 129, 3) := by decide +kernel
theorem dX5_may_12 : decode cX5_may 12 = .ok (.aload_n 0, 1) := by decide +kernel
theorem dX5_may_13 : decode cX5_may 13 = .ok (.getfield 39, 3) := by decide +kernel
theorem dX5_may_16 : decode cX5_may 16 = .ok (.aload_n 0, 1) := by decide +kernel
theorem dX5_may_17 : decode cX5_may 17 = .ok (.getfield 30, 3) := by decide +kernel
theorem dX5_may_20 : decode cX5_may 20 = .ok (.invokevirtual 94, 3) := by decide +kernel
theorem dX5_may_23 : decode cX5_may 23 = .ok (.invokevirtual 132, 3) := by decide +kernel
theorem dX5_may_26 : decode cX5_may 26 = .ok (.ifCond .eq 7, 3) := by decide +kernel
theorem dX5_may_29 : decode cX5_may 29 = .ok (.iconst 0, 1) := by decide +kernel
theorem dX5_may_30 : decode cX5_may 30 = .ok (.goto 11, 3) := by decide +kernel
theorem dX5_may_33 : decode cX5_may 33 = .ok (.aload_n 0, 1) := by decide +kernel
theorem dX5_may_34 : decode cX5_may 34 = .ok (.getfield 39, 3) := by decide +kernel
theorem dX5_may_37 : decode cX5_may 37 = .ok (.iload_n 1, 1) := by decide +kernel
theorem dX5_may_38 : decode cX5_may 38 = .ok (.invokevirtual 135, 3) := by decide +kernel
theorem dX5_may_41 : decode cX5_may 41 = .ok (.ireturn, 1) := by decide +kernel
set_option maxRecDepth 20000 in
theorem ggX5_unit_X2_append : GoodIn wsX5_unit wsX2_append := goodIn_r _ [6, 7, 8, 15, 16, 17, 18, 19] (by decide +kernel) (by decide +kernel)
set_option maxRecDepth 20000 in
theorem gX5_unit_X2_append : GoodIn wsX5_unit (wsV RX5 138 RX2 yX2_append wsX2_append) := goodIn_app (goodIn_of _ (by decide +kernel)) ggX5_unit_X2_append
theorem dX5_unit_0 : decode cX5_unit 0 = .ok (.aload_n 0, 1) := by decide +kernel
theorem dX5_unit_1 : decode cX5_unit 1 = .ok (.getfield 46, 3) := by decide +kernel
theorem dX5_unit_4 : decode cX5_unit 4 = .ok (.iload_n 1, 1) := by decide +kernel
theorem dX5_unit_5 : decode cX5_unit 5 = .ok (.invokevirtual 138, 3) := by decide +kernel
theorem dX5_unit_8 : decode cX5_unit 8 = .ok (.ireturn, 1) := by decide +kernel
set_option maxRecDepth 20000 in
theorem ggX5_read_X2_readAll : GoodIn wsX5_read wsX2_readAll := goodIn_r _ [6, 7, 8, 9, 10, 11, 12, 13, 14, 15, 16, 17, 18, 5, 19, 20, 21, 22, 23, 24, 25, 26, 27, 28, 29, 30, 31, 32, 33, 34, 35, 36, 37, 38, 39, 40, 41, 42, 43, 44, 45, 46, 47, 48, 49, 50, 51, 52, 53, 54, 55, 56, 57, 58, 59, 60, 61, 62, 63, 64, 65, 66, 67, 68, 69, 70, 71, 72, 73, 74, 75, 76, 77, 78, 79, 80, 81, 82, 83, 84, 85, 86, 87, 88, 89, 90, 91, 92, 99, 100, 101, 102, 103, 104, 105, 106, 107, 108, 109, 110, 111, 112, 113] (by decide +kernel) (by decide +kernel)
set_option maxRecDepth 20000 in
theorem gX5_read_X2_readAll : GoodIn wsX5_read (wsV RX5 140 RX2 yX2_readAll wsX2_readAll) := goodIn_app (goodIn_of _ (by decide +kernel)) ggX5_read_X2_readAll
theorem dX5_read_0 : decode cX5_read 0 = .ok (.aload_n 0, 1) := by decide +kernel
theorem dX5_read_1 : decode cX5_read 1 = .ok (.getfield 46, 3) := by decide +kernel
theorem dX5_read_4 : decode cX5_read 4 = .ok (.invokevirtual 140, 3) := by decide +kernel
theorem dX5_read_7 : decode cX5_read 7 = .ok (.ireturn, 1) := by decide +kernel
set_option maxRecDepth 20000 in
theorem ggX5_needRule_X3_has : GoodIn wsX5_needRule wsX3_has := goodIn_r _ [9, 10, 23, 24, 25, 26, 27, 28, 29] (by decide +kernel) (by decide +kernel)
set_option maxRecDepth 20000 in
theorem gX5_needRule_X3_has : GoodIn wsX5_needRule (wsV RX5 143 RX3 yX3_has wsX3_has) := goodIn_app (goodIn_of _ (by decide +kernel)) ggX5_needRule_X3_has
theorem dX5_needRule_0 : decode cX5_needRule 0 = .ok (.aload_n 0, 1) := by decide +kernel
theorem dX5_needRule_1 : decode cX5_needRule 1 = .ok (.getfield 23, 3) := by decide +kernel
theorem dX5_needRule_4 : decode cX5_needRule 4 = .ok (.iload_n 1, 1) := by decide +kernel
theorem dX5_needRule_5 : decode cX5_needRule 5 = .ok (.invokevirtual 143, 3) := by decide +kernel
theorem dX5_needRule_8 : decode cX5_needRule 8 = .ok (.ifCond .ne 13, 3) := by decide +kernel
theorem dX5_needRule_11 : decode cX5_needRule 11 = .ok (.new 116, 3) := by decide +kernel
theorem dX5_needRule_14 : decode cX5_needRule 14 = .ok (.dup, 1) := by decide +kernel
theorem dX5_needRule_15 : decode cX5_needRule 15 = .ok (.ldc 146, 2) := by decide +kernel
theorem dX5_needRule_17 : decode cX5_needRule 17 = .ok (.invokespecial 120, 3) := by decide +kernel
theorem dX5_needRule_20 : decode cX5_needRule 20 = .ok (.athrow, 1) := by decide +kernel
theorem dX5_needRule_21 : decode cX5_needRule 21 = .ok (.return_, 1) := by decide +kernel
set_option maxRecDepth 20000 in
theorem ggX5_needCell_X0_hasCell : GoodIn wsX5_needCell wsX0_hasCell := goodIn_r _ [9, 10, 23, 24, 25, 26, 27] (by decide +kernel) (by decide +kernel)
set_option maxRecDepth 20000 in
theorem gX5_needCell_X0_hasCell : GoodIn wsX5_needCell (wsV RX5 148 RX0 yX0_hasCell wsX0_hasCell) := goodIn_app (goodIn_of _ (by decide +kernel)) ggX5_needCell_X0_hasCell
theorem dX5_needCell_0 : decode cX5_needCell 0 = .ok (.aload_n 0, 1) := by decide +kernel
theorem dX5_needCell_1 : decode cX5_needCell 1 = .ok (.getfield 12, 3) := by decide +kernel
theorem dX5_needCell_4 : decode cX5_needCell 4 = .ok (.iload_n 1, 1) := by decide +kernel
theorem dX5_needCell_5 : decode cX5_needCell 5 = .ok (.invokevirtual 148, 3) := by decide +kernel
theorem dX5_needCell_8 : decode cX5_needCell 8 = .ok (.ifCond .ne 13, 3) := by decide +kernel
theorem dX5_needCell_11 : decode cX5_needCell 11 = .ok (.new 116, 3) := by decide +kernel
theorem dX5_needCell_14 : decode cX5_needCell 14 = .ok (.dup, 1) := by decide +kernel
theorem dX5_needCell_15 : decode cX5_needCell 15 = .ok (.ldc 151, 2) := by decide +kernel
theorem dX5_needCell_17 : decode cX5_needCell 17 = .ok (.invokespecial 120, 3) := by decide +kernel
theorem dX5_needCell_20 : decode cX5_needCell 20 = .ok (.athrow, 1) := by decide +kernel
theorem dX5_needCell_21 : decode cX5_needCell 21 = .ok (.return_, 1) := by decide +kernel
set_option maxRecDepth 20000 in
theorem ggX5_needSymbol_X0_hasSymbol : GoodIn wsX5_needSymbol wsX0_hasSymbol := goodIn_r _ [8, 9, 16, 17, 18, 19, 20] (by decide +kernel) (by decide +kernel)
set_option maxRecDepth 20000 in
theorem gX5_needSymbol_X0_hasSymbol : GoodIn wsX5_needSymbol (wsV RX5 153 RX0 yX0_hasSymbol wsX0_hasSymbol) := goodIn_app (goodIn_of _ (by decide +kernel)) ggX5_needSymbol_X0_hasSymbol
theorem dX5_needSymbol_0 : decode cX5_needSymbol 0 = .ok (.aload_n 0, 1) := by decide +kernel
theorem dX5_needSymbol_1 : decode cX5_needSymbol 1 = .ok (.getfield 12, 3) := by decide +kernel
theorem dX5_needSymbol_4 : decode cX5_needSymbol 4 = .ok (.iload_n 1, 1) := by decide +kernel
theorem dX5_needSymbol_5 : decode cX5_needSymbol 5 = .ok (.invokevirtual 153, 3) := by decide +kernel
theorem dX5_needSymbol_8 : decode cX5_needSymbol 8 = .ok (.ifCond .ne 13, 3) := by decide +kernel
theorem dX5_needSymbol_11 : decode cX5_needSymbol 11 = .ok (.new 156, 3) := by decide +kernel
theorem dX5_needSymbol_14 : decode cX5_needSymbol 14 = .ok (.dup, 1) := by decide +kernel
theorem dX5_needSymbol_15 : decode cX5_needSymbol 15 = .ok (.ldc 158, 2) := by decide +kernel
theorem dX5_needSymbol_17 : decode cX5_needSymbol 17 = .ok (.invokespecial 160, 3) := by decide +kernel
theorem dX5_needSymbol_20 : decode cX5_needSymbol 20 = .ok (.athrow, 1) := by decide +kernel
theorem dX5_needSymbol_21 : decode cX5_needSymbol 21 = .ok (.return_, 1) := by decide +kernel
set_option maxRecDepth 20000 in
theorem ggX5_toldLiteral_X1_sizeOf : GoodIn wsX5_toldLiteral wsX1_sizeOf := goodIn_r _ [7, 8, 35, 36, 37, 38, 39] (by decide +kernel) (by decide +kernel)
set_option maxRecDepth 20000 in
theorem gX5_toldLiteral_X1_sizeOf : GoodIn wsX5_toldLiteral (wsV RX5 109 RX1 yX1_sizeOf wsX1_sizeOf) := goodIn_app (goodIn_of _ (by decide +kernel)) ggX5_toldLiteral_X1_sizeOf
set_option maxRecDepth 20000 in
theorem ggX5_toldLiteral_X1_literalAt : GoodIn wsX5_toldLiteral wsX1_literalAt := goodIn_r _ [12, 13, 35, 36, 37, 38, 39] (by decide +kernel) (by decide +kernel)
set_option maxRecDepth 20000 in
theorem gX5_toldLiteral_X1_literalAt : GoodIn wsX5_toldLiteral (wsV RX5 161 RX1 yX1_literalAt wsX1_literalAt) := goodIn_app (goodIn_of _ (by decide +kernel)) ggX5_toldLiteral_X1_literalAt
set_option maxRecDepth 20000 in
theorem ggX5_toldLiteral_X0_symbols : GoodIn wsX5_toldLiteral wsX0_symbols := goodIn_r _ [18, 19, 40, 41, 42, 43, 44] (by decide +kernel) (by decide +kernel)
set_option maxRecDepth 20000 in
theorem gX5_toldLiteral_X0_symbols : GoodIn wsX5_toldLiteral (wsV RX5 164 RX0 yX0_symbols wsX0_symbols) := goodIn_app (goodIn_of _ (by decide +kernel)) ggX5_toldLiteral_X0_symbols
set_option maxRecDepth 20000 in
theorem ggX5_toldLiteral_X1_cellOf : GoodIn wsX5_toldLiteral wsX1_cellOf := goodIn_r _ [22] (by decide +kernel) (by decide +kernel)
set_option maxRecDepth 20000 in
theorem gX5_toldLiteral_X1_cellOf : GoodIn wsX5_toldLiteral (va_wsS RX5 167 yX1_cellOf wsX1_cellOf) := goodIn_app (goodIn_of _ (by decide +kernel)) ggX5_toldLiteral_X1_cellOf
set_option maxRecDepth 20000 in
theorem ggX5_toldLiteral_X1_symbolOf : GoodIn wsX5_toldLiteral wsX1_symbolOf := goodIn_r _ [25] (by decide +kernel) (by decide +kernel)
set_option maxRecDepth 20000 in
theorem gX5_toldLiteral_X1_symbolOf : GoodIn wsX5_toldLiteral (va_wsS RX5 170 yX1_symbolOf wsX1_symbolOf) := goodIn_app (goodIn_of _ (by decide +kernel)) ggX5_toldLiteral_X1_symbolOf
set_option maxRecDepth 20000 in
theorem ggX5_toldLiteral_X1_saysIs : GoodIn wsX5_toldLiteral wsX1_saysIs := goodIn_r _ [28] (by decide +kernel) (by decide +kernel)
set_option maxRecDepth 20000 in
theorem gX5_toldLiteral_X1_saysIs : GoodIn wsX5_toldLiteral (va_wsS RX5 173 yX1_saysIs wsX1_saysIs) := goodIn_app (goodIn_of _ (by decide +kernel)) ggX5_toldLiteral_X1_saysIs
theorem dX5_toldLiteral_0 : decode cX5_toldLiteral 0 = .ok (.iload_n 2, 1) := by decide +kernel
theorem dX5_toldLiteral_1 : decode cX5_toldLiteral 1 = .ok (.iconst 3, 1) := by decide +kernel
theorem dX5_toldLiteral_2 : decode cX5_toldLiteral 2 = .ok (.if_icmp .lt 17, 3) := by decide +kernel
theorem dX5_toldLiteral_5 : decode cX5_toldLiteral 5 = .ok (.iload_n 2, 1) := by decide +kernel
theorem dX5_toldLiteral_6 : decode cX5_toldLiteral 6 = .ok (.iconst 3, 1) := by decide +kernel
theorem dX5_toldLiteral_7 : decode cX5_toldLiteral 7 = .ok (.isub, 1) := by decide +kernel
theorem dX5_toldLiteral_8 : decode cX5_toldLiteral 8 = .ok (.aload_n 0, 1) := by decide +kernel
theorem dX5_toldLiteral_9 : decode cX5_toldLiteral 9 = .ok (.getfield 30, 3) := by decide +kernel
theorem dX5_toldLiteral_12 : decode cX5_toldLiteral 12 = .ok (.iload_n 1, 1) := by decide +kernel
theorem dX5_toldLiteral_13 : decode cX5_toldLiteral 13 = .ok (.invokevirtual 109, 3) := by decide +kernel
theorem dX5_toldLiteral_16 : decode cX5_toldLiteral 16 = .ok (.if_icmp .lt 5, 3) := by decide +kernel
theorem dX5_toldLiteral_19 : decode cX5_toldLiteral 19 = .ok (.iconst (-1), 1) := by decide +kernel
theorem dX5_toldLiteral_20 : decode cX5_toldLiteral 20 = .ok (.ireturn, 1) := by decide +kernel
theorem dX5_toldLiteral_21 : decode cX5_toldLiteral 21 = .ok (.aload_n 0, 1) := by decide +kernel
theorem dX5_toldLiteral_22 : decode cX5_toldLiteral 22 = .ok (.getfield 30, 3) := by decide +kernel
theorem dX5_toldLiteral_25 : decode cX5_toldLiteral 25 = .ok (.iload_n 1, 1) := by decide +kernel
theorem dX5_toldLiteral_26 : decode cX5_toldLiteral 26 = .ok (.iload_n 2, 1) := by decide +kernel
theorem dX5_toldLiteral_27 : decode cX5_toldLiteral 27 = .ok (.iconst 3, 1) := by decide +kernel
theorem dX5_toldLiteral_28 : decode cX5_toldLiteral 28 = .ok (.isub, 1) := by decide +kernel
theorem dX5_toldLiteral_29 : decode cX5_toldLiteral 29 = .ok (.invokevirtual 161, 3) := by decide +kernel
theorem dX5_toldLiteral_32 : decode cX5_toldLiteral 32 = .ok (.istore_n 3, 1) := by decide +kernel
theorem dX5_toldLiteral_33 : decode cX5_toldLiteral 33 = .ok (.aload_n 0, 1) := by decide +kernel
theorem dX5_toldLiteral_34 : decode cX5_toldLiteral 34 = .ok (.getfield 12, 3) := by decide +kernel
theorem dX5_toldLiteral_37 : decode cX5_toldLiteral 37 = .ok (.invokevirtual 164, 3) := by decide +kernel
theorem dX5_toldLiteral_40 : decode cX5_toldLiteral 40 = .ok (.iload_n 3, 1) := by decide +kernel
theorem dX5_toldLiteral_41 : decode cX5_toldLiteral 41 = .ok (.invokestatic 167, 3) := by decide +kernel
theorem dX5_toldLiteral_44 : decode cX5_toldLiteral 44 = .ok (.imul, 1) := by decide +kernel
theorem dX5_toldLiteral_45 : decode cX5_toldLiteral 45 = .ok (.iload_n 3, 1) := by decide +kernel
theorem dX5_toldLiteral_46 : decode cX5_toldLiteral 46 = .ok (.invokestatic 170, 3) := by decide +kernel
theorem dX5_toldLiteral_49 : decode cX5_toldLiteral 49 = .ok (.iadd, 1) := by decide +kernel
theorem dX5_toldLiteral_50 : decode cX5_toldLiteral 50 = .ok (.istore 4, 2) := by decide +kernel
theorem dX5_toldLiteral_52 : decode cX5_toldLiteral 52 = .ok (.iconst 2, 1) := by decide +kernel
theorem dX5_toldLiteral_53 : decode cX5_toldLiteral 53 = .ok (.iload 4, 2) := by decide +kernel
theorem dX5_toldLiteral_55 : decode cX5_toldLiteral 55 = .ok (.imul, 1) := by decide +kernel
theorem dX5_toldLiteral_56 : decode cX5_toldLiteral 56 = .ok (.iload_n 3, 1) := by decide +kernel
theorem dX5_toldLiteral_57 : decode cX5_toldLiteral 57 = .ok (.invokestatic 173, 3) := by decide +kernel
theorem dX5_toldLiteral_60 : decode cX5_toldLiteral 60 = .ok (.ifCond .eq 7, 3) := by decide +kernel
theorem dX5_toldLiteral_63 : decode cX5_toldLiteral 63 = .ok (.iconst 1, 1) := by decide +kernel
theorem dX5_toldLiteral_64 : decode cX5_toldLiteral 64 = .ok (.goto 4, 3) := by decide +kernel
theorem dX5_toldLiteral_67 : decode cX5_toldLiteral 67 = .ok (.iconst 0, 1) := by decide +kernel
theorem dX5_toldLiteral_68 : decode cX5_toldLiteral 68 = .ok (.iadd, 1) := by decide +kernel
theorem dX5_toldLiteral_69 : decode cX5_toldLiteral 69 = .ok (.ireturn, 1) := by decide +kernel
set_option maxRecDepth 20000 in
theorem ggX5_followsFromLinesAhead_X1_numberOf : GoodIn wsX5_followsFromLinesAhead wsX1_numberOf := goodIn_r _ [9, 10, 204, 205, 206, 207, 208] (by decide +kernel) (by decide +kernel)
set_option maxRecDepth 20000 in
theorem gX5_followsFromLinesAhead_X1_numberOf : GoodIn wsX5_followsFromLinesAhead (wsV RX5 123 RX1 yX1_numberOf wsX1_numberOf) := goodIn_app (goodIn_of _ (by decide +kernel)) ggX5_followsFromLinesAhead_X1_numberOf
set_option maxRecDepth 20000 in
theorem ggX5_followsFromLinesAhead_X1_kindOf : GoodIn wsX5_followsFromLinesAhead wsX1_kindOf := goodIn_r _ [14, 15, 204, 205, 206, 207, 208] (by decide +kernel) (by decide +kernel)
set_option maxRecDepth 20000 in
theorem gX5_followsFromLinesAhead_X1_kindOf : GoodIn wsX5_followsFromLinesAhead (wsV RX5 113 RX1 yX1_kindOf wsX1_kindOf) := goodIn_app (goodIn_of _ (by decide +kernel)) ggX5_followsFromLinesAhead_X1_kindOf
set_option maxRecDepth 20000 in
theorem ggX5_followsFromLinesAhead_X3_has : GoodIn wsX5_followsFromLinesAhead wsX3_has := goodIn_r _ [20, 21, 209, 210, 211, 212, 213, 214, 215] (by decide +kernel) (by decide +kernel)
set_option maxRecDepth 20000 in
theorem gX5_followsFromLinesAhead_X3_has : GoodIn wsX5_followsFromLinesAhead (wsV RX5 143 RX3 yX3_has wsX3_has) := goodIn_app (goodIn_of _ (by decide +kernel)) ggX5_followsFromLinesAhead_X3_has
set_option maxRecDepth 20000 in
theorem ggX5_followsFromLinesAhead_X5_isByRule : GoodIn wsX5_followsFromLinesAhead wsX5_isByRule := goodIn_r _ [26, 2, 3, 27, 28, 29, 19, 30, 31, 32, 33, 34, 35, 36, 37, 38, 39, 40, 41, 42, 43, 44, 45, 46, 47, 48, 49, 50, 51, 52, 53, 54, 55, 56, 57, 58, 59, 60, 61, 62, 8, 63, 64, 65, 66, 67, 68, 69, 70, 71, 72, 73, 74, 75, 76, 77, 78, 79, 80, 81, 82, 83, 84, 85, 86, 87, 88, 89, 90, 91, 92, 93, 94, 95, 96, 97, 98, 99, 100, 101, 102, 103, 104, 105, 106, 107, 108, 109, 110, 111, 112, 113, 114, 115, 116, 117, 118, 119, 120, 121, 122, 123, 124, 125, 126, 127, 128, 129, 130, 131, 132, 133, 198, 199, 200, 201, 202, 203, 209, 210, 211, 212, 213, 214, 215, 216, 217, 218, 219, 220, 221, 222, 223, 224, 204, 205, 206, 207, 208] (by decide +kernel) (by decide +kernel)
set_option maxRecDepth 20000 in
theorem gX5_followsFromLinesAhead_X5_isByRule : GoodIn wsX5_followsFromLinesAhead (wsV RX5 176 RX5 yX5_isByRule wsX5_isByRule) := goodIn_app (goodIn_of _ (by decide +kernel)) ggX5_followsFromLinesAhead_X5_isByRule
set_option maxRecDepth 20000 in
theorem ggX5_followsFromLinesAhead_X4_refute : GoodIn wsX5_followsFromLinesAhead wsX4_refute := goodIn_r _ [137, 138, 40, 41, 42, 43, 44, 45, 46, 47, 48, 49, 50, 51, 52, 53, 36, 54, 55, 56, 57, 58, 59, 38, 60, 61, 62, 8, 63, 64, 65, 66, 67, 68, 69, 70, 71, 72, 73, 74, 75, 76, 77, 78, 79, 80, 81, 82, 139, 140, 141, 142, 143, 144, 145, 146, 147, 34, 35, 37, 148, 149, 150, 151, 152, 153, 154, 155, 221, 222, 223, 224, 216, 217, 218, 219, 220, 204, 205, 206, 207, 208] (by decide +kernel) (by decide +kernel)
set_option maxRecDepth 20000 in
theorem gX5_followsFromLinesAhead_X4_refute : GoodIn wsX5_followsFromLinesAhead (wsV RX5 179 RX4 yX4_refute wsX4_refute) := goodIn_app (goodIn_of _ (by decide +kernel)) ggX5_followsFromLinesAhead_X4_refute
set_option maxRecDepth 20000 in
theorem ggX5_followsFromLinesAhead_X0_hasCell : GoodIn wsX5_followsFromLinesAhead wsX0_hasCell := goodIn_r _ [159, 55, 216, 217, 218, 219, 220] (by decide +kernel) (by decide +kernel)
set_option maxRecDepth 20000 in
theorem gX5_followsFromLinesAhead_X0_hasCell : GoodIn wsX5_followsFromLinesAhead (wsV RX5 148 RX0 yX0_hasCell wsX0_hasCell) := goodIn_app (goodIn_of _ (by decide +kernel)) ggX5_followsFromLinesAhead_X0_hasCell
set_option maxRecDepth 20000 in
theorem ggX5_followsFromLinesAhead_X4_refuteBySplit : GoodIn wsX5_followsFromLinesAhead wsX4_refuteBySplit := goodIn_r _ [163, 50, 164, 165, 166, 167, 168, 49, 169, 135, 136, 42, 137, 138, 40, 41, 43, 44, 45, 46, 47, 48, 51, 52, 53, 36, 54, 55, 56, 57, 58, 59, 38, 60, 61, 62, 8, 63, 64, 65, 66, 67, 68, 69, 70, 71, 72, 73, 74, 75, 76, 77, 78, 79, 80, 81, 82, 139, 140, 141, 142, 143, 144, 145, 146, 147, 34, 35, 37, 148, 149, 150, 151, 152, 153, 154, 155, 221, 222, 223, 224, 216, 217, 218, 219, 220, 204, 205, 206, 207, 208] (by decide +kernel) (by decide +kernel)
set_option maxRecDepth 20000 in
theorem gX5_followsFromLinesAhead_X4_refuteBySplit : GoodIn wsX5_followsFromLinesAhead (wsV RX5 182 RX4 yX4_refuteBySplit wsX4_refuteBySplit) := goodIn_app (goodIn_of _ (by decide +kernel)) ggX5_followsFromLinesAhead_X4_refuteBySplit
set_option maxRecDepth 20000 in
theorem ggX5_followsFromLinesAhead_X5_isBarred : GoodIn wsX5_followsFromLinesAhead wsX5_isBarred := goodIn_r _ [173, 1, 4, 174, 61, 62, 8, 63, 64, 175, 52, 53, 36, 54, 55, 176, 177, 178, 25, 179, 180, 181, 66, 67, 68, 69, 182, 71, 72, 183, 78, 79, 184, 81, 82, 185, 186, 187, 188, 2, 189, 190, 191, 19, 192, 21, 193, 194, 195, 196, 31, 97, 98, 99, 100, 101, 197, 88, 89, 90, 91, 92, 32, 93, 94, 95, 96, 102, 103, 104, 105, 106, 107, 108, 109, 110, 111, 112, 113, 114, 115, 116, 117, 118, 119, 120, 121, 122, 123, 124, 125, 126, 127, 128, 198, 199, 200, 201, 202, 203, 204, 205, 206, 207, 208, 216, 217, 218, 219, 220, 209, 210, 211, 212, 213, 214, 215] (by decide +kernel) (by decide +kernel)
set_option maxRecDepth 20000 in
theorem gX5_followsFromLinesAhead_X5_isBarred : GoodIn wsX5_followsFromLinesAhead (wsV RX5 185 RX5 yX5_isBarred wsX5_isBarred) := goodIn_app (goodIn_of _ (by decide +kernel)) ggX5_followsFromLinesAhead_X5_isBarred
theorem dX5_followsFromLinesAhead_0 : decode cX5_followsFromLinesAhead 0 = .ok (.aload_n 0, 1) := by decide +kernel
theorem dX5_followsFromLinesAhead_1 : decode cX5_followsFromLinesAhead 1 = .ok (.getfield 30, 3) := by decide +kernel
theorem dX5_followsFromLinesAhead_4 : decode cX5_followsFromLinesAhead 4 = .ok (.iload_n 1, 1) := by decide +kernel
theorem dX5_followsFromLinesAhead_5 : decode cX5_followsFromLinesAhead 5 = .ok (.invokevirtual 123, 3) := by decide +kernel
theorem dX5_followsFromLinesAhead_8 : decode cX5_followsFromLinesAhead 8 = .ok (.istore_n 2, 1) := by decide +kernel
theorem dX5_followsFromLinesAhead_9 : decode cX5_followsFromLinesAhead 9 = .ok (.aload_n 0, 1) := by decide +kernel
theorem dX5_followsFromLinesAhead_10 : decode cX5_followsFromLinesAhead 10 = .ok (.getfield 30, 3) := by decide +kernel
theorem dX5_followsFromLinesAhead_13 : decode cX5_followsFromLinesAhead 13 = .ok (.iload_n 1, 1) := by decide +kernel
theorem dX5_followsFromLinesAhead_14 : decode cX5_followsFromLinesAhead 14 = .ok (.invokevirtual 113, 3) := by decide +kernel
theorem dX5_followsFromLinesAhead_17 : decode cX5_followsFromLinesAhead 17 = .ok (.tableswitch 91 0 2 #[27, 53, 62], 27) := by decide +kernel
theorem dX5_followsFromLinesAhead_44 : decode cX5_followsFromLinesAhead 44 = .ok (.aload_n 0, 1) := by decide +kernel
theorem dX5_followsFromLinesAhead_45 : decode cX5_followsFromLinesAhead 45 = .ok (.getfield 23, 3) := by decide +kernel
theorem dX5_followsFromLinesAhead_48 : decode cX5_followsFromLinesAhead 48 = .ok (.iload_n 2, 1) := by decide +kernel
theorem dX5_followsFromLinesAhead_49 : decode cX5_followsFromLinesAhead 49 = .ok (.invokevirtual 143, 3) := by decide +kernel
theorem dX5_followsFromLinesAhead_52 : decode cX5_followsFromLinesAhead 52 = .ok (.ifCond .eq 16, 3) := by decide +kernel
theorem dX5_followsFromLinesAhead_55 : decode cX5_followsFromLinesAhead 55 = .ok (.aload_n 0, 1) := by decide +kernel
theorem dX5_followsFromLinesAhead_56 : decode cX5_followsFromLinesAhead 56 = .ok (.iload_n 1, 1) := by decide +kernel
theorem dX5_followsFromLinesAhead_57 : decode cX5_followsFromLinesAhead 57 = .ok (.iload_n 2, 1) := by decide +kernel
theorem dX5_followsFromLinesAhead_58 : decode cX5_followsFromLinesAhead 58 = .ok (.invokevirtual 176, 3) := by decide +kernel
theorem dX5_followsFromLinesAhead_61 : decode cX5_followsFromLinesAhead 61 = .ok (.ifCond .eq 7, 3) := by decide +kernel
theorem dX5_followsFromLinesAhead_64 : decode cX5_followsFromLinesAhead 64 = .ok (.iconst 1, 1) := by decide +kernel
theorem dX5_followsFromLinesAhead_65 : decode cX5_followsFromLinesAhead 65 = .ok (.goto 4, 3) := by decide +kernel
theorem dX5_followsFromLinesAhead_68 : decode cX5_followsFromLinesAhead 68 = .ok (.iconst 0, 1) := by decide +kernel
theorem dX5_followsFromLinesAhead_69 : decode cX5_followsFromLinesAhead 69 = .ok (.ireturn, 1) := by decide +kernel
theorem dX5_followsFromLinesAhead_70 : decode cX5_followsFromLinesAhead 70 = .ok (.aload_n 0, 1) := by decide +kernel
theorem dX5_followsFromLinesAhead_71 : decode cX5_followsFromLinesAhead 71 = .ok (.getfield 39, 3) := by decide +kernel
theorem dX5_followsFromLinesAhead_74 : decode cX5_followsFromLinesAhead 74 = .ok (.iload_n 1, 1) := by decide +kernel
theorem dX5_followsFromLinesAhead_75 : decode cX5_followsFromLinesAhead 75 = .ok (.invokevirtual 179, 3) := by decide +kernel
theorem dX5_followsFromLinesAhead_78 : decode cX5_followsFromLinesAhead 78 = .ok (.ireturn, 1) := by decide +kernel
theorem dX5_followsFromLinesAhead_79 : decode cX5_followsFromLinesAhead 79 = .ok (.aload_n 0, 1) := by decide +kernel
theorem dX5_followsFromLinesAhead_80 : decode cX5_followsFromLinesAhead 80 = .ok (.getfield 12, 3) := by decide +kernel
theorem dX5_followsFromLinesAhead_83 : decode cX5_followsFromLinesAhead 83 = .ok (.iload_n 2, 1) := by decide +kernel
theorem dX5_followsFromLinesAhead_84 : decode cX5_followsFromLinesAhead 84 = .ok (.invokevirtual 148, 3) := by decide +kernel
theorem dX5_followsFromLinesAhead_87 : decode cX5_followsFromLinesAhead 87 = .ok (.ifCond .eq 19, 3) := by decide +kernel
theorem dX5_followsFromLinesAhead_90 : decode cX5_followsFromLinesAhead 90 = .ok (.aload_n 0, 1) := by decide +kernel
theorem dX5_followsFromLinesAhead_91 : decode cX5_followsFromLinesAhead 91 = .ok (.getfield 39, 3) := by decide +kernel
theorem dX5_followsFromLinesAhead_94 : decode cX5_followsFromLinesAhead 94 = .ok (.iload_n 1, 1) := by decide +kernel
theorem dX5_followsFromLinesAhead_95 : decode cX5_followsFromLinesAhead 95 = .ok (.iload_n 2, 1) := by decide +kernel
theorem dX5_followsFromLinesAhead_96 : decode cX5_followsFromLinesAhead 96 = .ok (.invokevirtual 182, 3) := by decide +kernel
theorem dX5_followsFromLinesAhead_99 : decode cX5_followsFromLinesAhead 99 = .ok (.ifCond .eq 7, 3) := by decide +kernel
theorem dX5_followsFromLinesAhead_102 : decode cX5_followsFromLinesAhead 102 = .ok (.iconst 1, 1) := by decide +kernel
theorem dX5_followsFromLinesAhead_103 : decode cX5_followsFromLinesAhead 103 = .ok (.goto 4, 3) := by decide +kernel
theorem dX5_followsFromLinesAhead_106 : decode cX5_followsFromLinesAhead 106 = .ok (.iconst 0, 1) := by decide +kernel
theorem dX5_followsFromLinesAhead_107 : decode cX5_followsFromLinesAhead 107 = .ok (.ireturn, 1) := by decide +kernel
theorem dX5_followsFromLinesAhead_108 : decode cX5_followsFromLinesAhead 108 = .ok (.aload_n 0, 1) := by decide +kernel
theorem dX5_followsFromLinesAhead_109 : decode cX5_followsFromLinesAhead 109 = .ok (.iload_n 1, 1) := by decide +kernel
theorem dX5_followsFromLinesAhead_110 : decode cX5_followsFromLinesAhead 110 = .ok (.invokevirtual 185, 3) := by decide +kernel
theorem dX5_followsFromLinesAhead_113 : decode cX5_followsFromLinesAhead 113 = .ok (.ireturn, 1) := by decide +kernel
set_option maxRecDepth 20000 in
theorem ggX5_isByRule_X3_canBeTried : GoodIn wsX5_isByRule wsX3_canBeTried := goodIn_r _ [7, 8, 9, 10, 11, 12, 13, 14, 15, 118, 119, 120, 121, 122, 123, 124, 125, 126, 127, 128, 129] (by decide +kernel) (by decide +kernel)
set_option maxRecDepth 20000 in
theorem gX5_isByRule_X3_canBeTried : GoodIn wsX5_isByRule (wsV RX5 188 RX3 yX3_canBeTried wsX3_canBeTried) := goodIn_app (goodIn_of _ (by decide +kernel)) ggX5_isByRule_X3_canBeTried
set_option maxRecDepth 20000 in
theorem ggX5_isByRule_X4_turnRound : GoodIn wsX5_isByRule wsX4_turnRound := goodIn_r _ [20, 21, 22, 23, 24, 19, 25, 26, 27, 28, 29, 30, 13, 31, 32, 33, 34, 35, 36, 15, 37, 38, 39, 40, 41, 42, 43, 44, 45, 46, 47, 48, 49, 50, 51, 52, 53, 54, 55, 56, 57, 58, 59, 60, 130, 131, 132, 133, 125, 126, 127, 128, 129, 134, 135, 136, 137, 138] (by decide +kernel) (by decide +kernel)
set_option maxRecDepth 20000 in
theorem gX5_isByRule_X4_turnRound : GoodIn wsX5_isByRule (wsV RX5 191 RX4 yX4_turnRound wsX4_turnRound) := goodIn_app (goodIn_of _ (by decide +kernel)) ggX5_isByRule_X4_turnRound
set_option maxRecDepth 20000 in
theorem ggX5_isByRule_X3_canBeMet : GoodIn wsX5_isByRule wsX3_canBeMet := goodIn_r _ [63, 8, 64, 9, 65, 66, 67, 6, 68, 69, 70, 71, 72, 73, 74, 75, 76, 77, 78, 79, 80, 81, 82, 83, 84, 85, 86, 87, 88, 89, 90, 91, 92, 93, 94, 95, 96, 97, 98, 13, 99, 32, 100, 101, 102, 103, 104, 105, 106, 107, 108, 109, 19, 110, 27, 10, 11, 12, 14, 15, 111, 61, 62, 118, 119, 120, 121, 122, 123, 124, 125, 126, 127, 128, 129, 130, 131, 132, 133] (by decide +kernel) (by decide +kernel)
set_option maxRecDepth 20000 in
theorem gX5_isByRule_X3_canBeMet_n194 : GoodIn wsX5_isByRule (wsX3_canBeMet) := ggX5_isByRule_X3_canBeMet
theorem dX5_isByRule_0 : decode cX5_isByRule 0 = .ok (.aload_n 0, 1) := by decide +kernel
theorem dX5_isByRule_1 : decode cX5_isByRule 1 = .ok (.getfield 23, 3) := by decide +kernel
theorem dX5_isByRule_4 : decode cX5_isByRule 4 = .ok (.iload_n 2, 1) := by decide +kernel
theorem dX5_isByRule_5 : decode cX5_isByRule 5 = .ok (.invokevirtual 188, 3) := by decide +kernel
theorem dX5_isByRule_8 : decode cX5_isByRule 8 = .ok (.ifCond .ne 5, 3) := by decide +kernel
theorem dX5_isByRule_11 : decode cX5_isByRule 11 = .ok (.iconst 0, 1) := by decide +kernel
theorem dX5_isByRule_12 : decode cX5_isByRule 12 = .ok (.ireturn, 1) := by decide +kernel
theorem dX5_isByRule_13 : decode cX5_isByRule 13 = .ok (.aload_n 0, 1) := by decide +kernel
theorem dX5_isByRule_14 : decode cX5_isByRule 14 = .ok (.getfield 39, 3) := by decide +kernel
theorem dX5_isByRule_17 : decode cX5_isByRule 17 = .ok (.iload_n 1, 1) := by decide +kernel
theorem dX5_isByRule_18 : decode cX5_isByRule 18 = .ok (.invokevirtual 191, 3) := by decide +kernel
theorem dX5_isByRule_21 : decode cX5_isByRule 21 = .ok (.aload_n 0, 1) := by decide +kernel
theorem dX5_isByRule_22 : decode cX5_isByRule 22 = .ok (.getfield 23, 3) := by decide +kernel
theorem dX5_isByRule_25 : decode cX5_isByRule 25 = .ok (.iload_n 2, 1) := by decide +kernel
theorem dX5_isByRule_26 : decode cX5_isByRule 26 = .ok (.aload_n 0, 1) := by decide +kernel
theorem dX5_isByRule_27 : decode cX5_isByRule 27 = .ok (.getfield 39, 3) := by decide +kernel
theorem dX5_isByRule_30 : decode cX5_isByRule 30 = .ok (.iconst 0, 1) := by decide +kernel
theorem dX5_isByRule_31 : decode cX5_isByRule 31 = .ok (.invokevirtual 194, 3) := by decide +kernel
theorem dX5_isByRule_34 : decode cX5_isByRule 34 = .ok (.ifCond .ne 7, 3) := by decide +kernel
theorem dX5_isByRule_37 : decode cX5_isByRule 37 = .ok (.iconst 1, 1) := by decide +kernel
theorem dX5_isByRule_38 : decode cX5_isByRule 38 = .ok (.goto 4, 3) := by decide +kernel
theorem dX5_isByRule_41 : decode cX5_isByRule 41 = .ok (.iconst 0, 1) := by decide +kernel
theorem dX5_isByRule_42 : decode cX5_isByRule 42 = .ok (.ireturn, 1) := by decide +kernel
set_option maxRecDepth 20000 in
theorem ggX5_isBarred_X1_sizeOf : GoodIn wsX5_isBarred wsX1_sizeOf := goodIn_r _ [7, 8, 100, 101, 102, 103, 104] (by decide +kernel) (by decide +kernel)
set_option maxRecDepth 20000 in
theorem gX5_isBarred_X1_sizeOf : GoodIn wsX5_isBarred (wsV RX5 109 RX1 yX1_sizeOf wsX1_sizeOf) := goodIn_app (goodIn_of _ (by decide +kernel)) ggX5_isBarred_X1_sizeOf
set_option maxRecDepth 20000 in
theorem ggX5_isBarred_X0_cells : GoodIn wsX5_isBarred wsX0_cells := goodIn_r _ [13, 14, 105, 106, 107, 108, 109] (by decide +kernel) (by decide +kernel)
set_option maxRecDepth 20000 in
theorem gX5_isBarred_X0_cells : GoodIn wsX5_isBarred (wsV RX5 198 RX0 yX0_cells wsX0_cells) := goodIn_app (goodIn_of _ (by decide +kernel)) ggX5_isBarred_X0_cells
set_option maxRecDepth 20000 in
theorem ggX5_isBarred_X5_deniesOnlyWhatIsSaid : GoodIn wsX5_isBarred wsX5_deniesOnlyWhatIsSaid := goodIn_r _ [19, 1, 20, 3, 4, 5, 6, 7, 8, 21, 22, 23, 24, 25, 26, 27, 28, 29, 30, 31, 32, 33, 34, 94, 95, 96, 97, 98, 99, 100, 101, 102, 103, 104] (by decide +kernel) (by decide +kernel)
set_option maxRecDepth 20000 in
theorem gX5_isBarred_X5_deniesOnlyWhatIsSaid : GoodIn wsX5_isBarred (wsV RX5 201 RX5 yX5_deniesOnlyWhatIsSaid wsX5_deniesOnlyWhatIsSaid) := goodIn_app (goodIn_of _ (by decide +kernel)) ggX5_isBarred_X5_deniesOnlyWhatIsSaid
set_option maxRecDepth 20000 in
theorem ggX5_isBarred_X5_fails : GoodIn wsX5_isBarred wsX5_fails := goodIn_r _ [38, 39, 20, 40, 41, 42, 43, 44, 45, 46, 47, 48, 49, 50, 51, 52, 53, 54, 55, 56, 57, 58, 59, 60, 61, 62, 63, 64, 65, 66, 67, 68, 69, 70, 71, 72, 73, 74, 75, 76, 77, 78, 79, 80, 81, 82, 83, 84, 85, 12, 86, 14, 87, 88, 89, 90, 91, 92, 93, 94, 95, 96, 97, 98, 99, 110, 111, 112, 113, 114, 115, 116, 105, 106, 107, 108, 109] (by decide +kernel) (by decide +kernel)
set_option maxRecDepth 20000 in
theorem gX5_isBarred_X5_fails : GoodIn wsX5_isBarred (wsV RX5 204 RX5 yX5_fails wsX5_fails) := goodIn_app (goodIn_of _ (by decide +kernel)) ggX5_isBarred_X5_fails
theorem dX5_isBarred_0 : decode cX5_isBarred 0 = .ok (.aload_n 0, 1) := by decide +kernel
theorem dX5_isBarred_1 : decode cX5_isBarred 1 = .ok (.getfield 30, 3) := by decide +kernel
theorem dX5_isBarred_4 : decode cX5_isBarred 4 = .ok (.iload_n 1, 1) := by decide +kernel
theorem dX5_isBarred_5 : decode cX5_isBarred 5 = .ok (.invokevirtual 109, 3) := by decide +kernel
theorem dX5_isBarred_8 : decode cX5_isBarred 8 = .ok (.aload_n 0, 1) := by decide +kernel
theorem dX5_isBarred_9 : decode cX5_isBarred 9 = .ok (.getfield 12, 3) := by decide +kernel
theorem dX5_isBarred_12 : decode cX5_isBarred 12 = .ok (.invokevirtual 198, 3) := by decide +kernel
theorem dX5_isBarred_15 : decode cX5_isBarred 15 = .ok (.if_icmp .ne 23, 3) := by decide +kernel
theorem dX5_isBarred_18 : decode cX5_isBarred 18 = .ok (.aload_n 0, 1) := by decide +kernel
theorem dX5_isBarred_19 : decode cX5_isBarred 19 = .ok (.iload_n 1, 1) := by decide +kernel
theorem dX5_isBarred_20 : decode cX5_isBarred 20 = .ok (.invokevirtual 201, 3) := by decide +kernel
theorem dX5_isBarred_23 : decode cX5_isBarred 23 = .ok (.ifCond .eq 15, 3) := by decide +kernel
theorem dX5_isBarred_26 : decode cX5_isBarred 26 = .ok (.aload_n 0, 1) := by decide +kernel
theorem dX5_isBarred_27 : decode cX5_isBarred 27 = .ok (.invokevirtual 204, 3) := by decide +kernel
theorem dX5_isBarred_30 : decode cX5_isBarred 30 = .ok (.iconst (-1), 1) := by decide +kernel
theorem dX5_isBarred_31 : decode cX5_isBarred 31 = .ok (.if_icmp .ne 7, 3) := by decide +kernel
theorem dX5_isBarred_34 : decode cX5_isBarred 34 = .ok (.iconst 1, 1) := by decide +kernel
theorem dX5_isBarred_35 : decode cX5_isBarred 35 = .ok (.goto 4, 3) := by decide +kernel
theorem dX5_isBarred_38 : decode cX5_isBarred 38 = .ok (.iconst 0, 1) := by decide +kernel
theorem dX5_isBarred_39 : decode cX5_isBarred 39 = .ok (.ireturn, 1) := by decide +kernel
set_option maxRecDepth 20000 in
theorem ggX5_deniesOnlyWhatIsSaid_X1_sizeOf : GoodIn wsX5_deniesOnlyWhatIsSaid wsX1_sizeOf := goodIn_r _ [7, 8, 29, 30, 31, 32, 33] (by decide +kernel) (by decide +kernel)
set_option maxRecDepth 20000 in
theorem gX5_deniesOnlyWhatIsSaid_X1_sizeOf : GoodIn wsX5_deniesOnlyWhatIsSaid (wsV RX5 109 RX1 yX1_sizeOf wsX1_sizeOf) := goodIn_app (goodIn_of _ (by decide +kernel)) ggX5_deniesOnlyWhatIsSaid_X1_sizeOf
set_option maxRecDepth 20000 in
theorem ggX5_deniesOnlyWhatIsSaid_X1_literalAt : GoodIn wsX5_deniesOnlyWhatIsSaid wsX1_literalAt := goodIn_r _ [12, 13, 29, 30, 31, 32, 33] (by decide +kernel) (by decide +kernel)
set_option maxRecDepth 20000 in
theorem gX5_deniesOnlyWhatIsSaid_X1_literalAt : GoodIn wsX5_deniesOnlyWhatIsSaid (wsV RX5 161 RX1 yX1_literalAt wsX1_literalAt) := goodIn_app (goodIn_of _ (by decide +kernel)) ggX5_deniesOnlyWhatIsSaid_X1_literalAt
set_option maxRecDepth 20000 in
theorem ggX5_deniesOnlyWhatIsSaid_X1_saysIs : GoodIn wsX5_deniesOnlyWhatIsSaid wsX1_saysIs := goodIn_r _ [16] (by decide +kernel) (by decide +kernel)
set_option maxRecDepth 20000 in
theorem gX5_deniesOnlyWhatIsSaid_X1_saysIs : GoodIn wsX5_deniesOnlyWhatIsSaid (va_wsS RX5 173 yX1_saysIs wsX1_saysIs) := goodIn_app (goodIn_of _ (by decide +kernel)) ggX5_deniesOnlyWhatIsSaid_X1_saysIs
set_option maxRecDepth 20000 in
theorem ggX5_deniesOnlyWhatIsSaid_X1_cellOf : GoodIn wsX5_deniesOnlyWhatIsSaid wsX1_cellOf := goodIn_r _ [19] (by decide +kernel) (by decide +kernel)
set_option maxRecDepth 20000 in
theorem gX5_deniesOnlyWhatIsSaid_X1_cellOf : GoodIn wsX5_deniesOnlyWhatIsSaid (va_wsS RX5 167 yX1_cellOf wsX1_cellOf) := goodIn_app (goodIn_of _ (by decide +kernel)) ggX5_deniesOnlyWhatIsSaid_X1_cellOf
set_option maxRecDepth 20000 in
theorem ggX5_deniesOnlyWhatIsSaid_X1_symbolOf : GoodIn wsX5_deniesOnlyWhatIsSaid wsX1_symbolOf := goodIn_r _ [22] (by decide +kernel) (by decide +kernel)
set_option maxRecDepth 20000 in
theorem gX5_deniesOnlyWhatIsSaid_X1_symbolOf : GoodIn wsX5_deniesOnlyWhatIsSaid (va_wsS RX5 170 yX1_symbolOf wsX1_symbolOf) := goodIn_app (goodIn_of _ (by decide +kernel)) ggX5_deniesOnlyWhatIsSaid_X1_symbolOf
theorem dX5_deniesOnlyWhatIsSaid_0 : decode cX5_deniesOnlyWhatIsSaid 0 = .ok (.iconst 0, 1) := by decide +kernel
theorem dX5_deniesOnlyWhatIsSaid_1 : decode cX5_deniesOnlyWhatIsSaid 1 = .ok (.istore_n 2, 1) := by decide +kernel
theorem dX5_deniesOnlyWhatIsSaid_2 : decode cX5_deniesOnlyWhatIsSaid 2 = .ok (.iload_n 2, 1) := by decide +kernel
theorem dX5_deniesOnlyWhatIsSaid_3 : decode cX5_deniesOnlyWhatIsSaid 3 = .ok (.aload_n 0, 1) := by decide +kernel
theorem dX5_deniesOnlyWhatIsSaid_4 : decode cX5_deniesOnlyWhatIsSaid 4 = .ok (.getfield 30, 3) := by decide +kernel
theorem dX5_deniesOnlyWhatIsSaid_7 : decode cX5_deniesOnlyWhatIsSaid 7 = .ok (.iload_n 1, 1) := by decide +kernel
theorem dX5_deniesOnlyWhatIsSaid_8 : decode cX5_deniesOnlyWhatIsSaid 8 = .ok (.invokevirtual 109, 3) := by decide +kernel
theorem dX5_deniesOnlyWhatIsSaid_11 : decode cX5_deniesOnlyWhatIsSaid 11 = .ok (.if_icmp .ge 44, 3) := by decide +kernel
theorem dX5_deniesOnlyWhatIsSaid_14 : decode cX5_deniesOnlyWhatIsSaid 14 = .ok (.aload_n 0, 1) := by decide +kernel
theorem dX5_deniesOnlyWhatIsSaid_15 : decode cX5_deniesOnlyWhatIsSaid 15 = .ok (.getfield 30, 3) := by decide +kernel
theorem dX5_deniesOnlyWhatIsSaid_18 : decode cX5_deniesOnlyWhatIsSaid 18 = .ok (.iload_n 1, 1) := by decide +kernel
theorem dX5_deniesOnlyWhatIsSaid_19 : decode cX5_deniesOnlyWhatIsSaid 19 = .ok (.iload_n 2, 1) := by decide +kernel
theorem dX5_deniesOnlyWhatIsSaid_20 : decode cX5_deniesOnlyWhatIsSaid 20 = .ok (.invokevirtual 161, 3) := by decide +kernel
theorem dX5_deniesOnlyWhatIsSaid_23 : decode cX5_deniesOnlyWhatIsSaid 23 = .ok (.istore_n 3, 1) := by decide +kernel
theorem dX5_deniesOnlyWhatIsSaid_24 : decode cX5_deniesOnlyWhatIsSaid 24 = .ok (.iload_n 3, 1) := by decide +kernel
theorem dX5_deniesOnlyWhatIsSaid_25 : decode cX5_deniesOnlyWhatIsSaid 25 = .ok (.invokestatic 173, 3) := by decide +kernel
theorem dX5_deniesOnlyWhatIsSaid_28 : decode cX5_deniesOnlyWhatIsSaid 28 = .ok (.ifCond .ne 19, 3) := by decide +kernel
theorem dX5_deniesOnlyWhatIsSaid_31 : decode cX5_deniesOnlyWhatIsSaid 31 = .ok (.aload_n 0, 1) := by decide +kernel
theorem dX5_deniesOnlyWhatIsSaid_32 : decode cX5_deniesOnlyWhatIsSaid 32 = .ok (.getfield 50, 3) := by decide +kernel
theorem dX5_deniesOnlyWhatIsSaid_35 : decode cX5_deniesOnlyWhatIsSaid 35 = .ok (.iload_n 3, 1) := by decide +kernel
theorem dX5_deniesOnlyWhatIsSaid_36 : decode cX5_deniesOnlyWhatIsSaid 36 = .ok (.invokestatic 167, 3) := by decide +kernel
theorem dX5_deniesOnlyWhatIsSaid_39 : decode cX5_deniesOnlyWhatIsSaid 39 = .ok (.iaload, 1) := by decide +kernel
theorem dX5_deniesOnlyWhatIsSaid_40 : decode cX5_deniesOnlyWhatIsSaid 40 = .ok (.iload_n 3, 1) := by decide +kernel
theorem dX5_deniesOnlyWhatIsSaid_41 : decode cX5_deniesOnlyWhatIsSaid 41 = .ok (.invokestatic 170, 3) := by decide +kernel
theorem dX5_deniesOnlyWhatIsSaid_44 : decode cX5_deniesOnlyWhatIsSaid 44 = .ok (.if_icmp .eq 5, 3) := by decide +kernel
theorem dX5_deniesOnlyWhatIsSaid_47 : decode cX5_deniesOnlyWhatIsSaid 47 = .ok (.iconst 0, 1) := by decide +kernel
theorem dX5_deniesOnlyWhatIsSaid_48 : decode cX5_deniesOnlyWhatIsSaid 48 = .ok (.ireturn, 1) := by decide +kernel
theorem dX5_deniesOnlyWhatIsSaid_49 : decode cX5_deniesOnlyWhatIsSaid 49 = .ok (.iinc 2 1, 3) := by decide +kernel
theorem dX5_deniesOnlyWhatIsSaid_52 : decode cX5_deniesOnlyWhatIsSaid 52 = .ok (.goto (-50), 3) := by decide +kernel
theorem dX5_deniesOnlyWhatIsSaid_55 : decode cX5_deniesOnlyWhatIsSaid 55 = .ok (.iconst 1, 1) := by decide +kernel
theorem dX5_deniesOnlyWhatIsSaid_56 : decode cX5_deniesOnlyWhatIsSaid 56 = .ok (.ireturn, 1) := by decide +kernel
end
section
set_option maxRecDepth 20000 in
theorem ggX6_init_X6_held : GoodIn wsX6_init wsX6_held := goodIn_r _ [24] (by decide +kernel) (by decide +kernel)
set_option maxRecDepth 20000 in
theorem gX6_init_X6_held : GoodIn wsX6_init (va_wsS RX6 49 yX6_held wsX6_held) := goodIn_app (goodIn_of _ (by decide +kernel)) ggX6_init_X6_held
theorem dX6_init_0 : decode cX6_init 0 = .ok (.aload_n 0, 1) := by decide +kernel
theorem dX6_init_1 : decode cX6_init 1 = .ok (.invokespecial 1, 3) := by decide +kernel
theorem dX6_init_4 : decode cX6_init 4 = .ok (.aload_n 0, 1) := by decide +kernel
theorem dX6_init_5 : decode cX6_init 5 = .ok (.bipush 30, 2) := by decide +kernel
theorem dX6_init_7 : decode cX6_init 7 = .ok (.newarray .int, 2) := by decide +kernel
theorem dX6_init_9 : decode cX6_init 9 = .ok (.putfield 7, 3) := by decide +kernel
theorem dX6_init_12 : decode cX6_init 12 = .ok (.aload_n 0, 1) := by decide +kernel
theorem dX6_init_13 : decode cX6_init 13 = .ok (.bipush 30, 2) := by decide +kernel
theorem dX6_init_15 : decode cX6_init 15 = .ok (.newarray .int, 2) := by decide +kernel
theorem dX6_init_17 : decode cX6_init 17 = .ok (.putfield 13, 3) := by decide +kernel
theorem dX6_init_20 : decode cX6_init 20 = .ok (.aload_n 0, 1) := by decide +kernel
theorem dX6_init_21 : decode cX6_init 21 = .ok (.bipush 30, 2) := by decide +kernel
theorem dX6_init_23 : decode cX6_init 23 = .ok (.newarray .int, 2) := by decide +kernel
theorem dX6_init_25 : decode cX6_init 25 = .ok (.putfield 16, 3) := by decide +kernel
theorem dX6_init_28 : decode cX6_init 28 = .ok (.aload_n 0, 1) := by decide +kernel
theorem dX6_init_29 : decode cX6_init 29 = .ok (.sipush 270, 3) := by decide +kernel
theorem dX6_init_32 : decode cX6_init 32 = .ok (.newarray .int, 2) := by decide +kernel
theorem dX6_init_34 : decode cX6_init 34 = .ok (.putfield 19, 3) := by decide +kernel
theorem dX6_init_37 : decode cX6_init 37 = .ok (.aload_n 0, 1) := by decide +kernel
theorem dX6_init_38 : decode cX6_init 38 = .ok (.bipush 16, 2) := by decide +kernel
theorem dX6_init_40 : decode cX6_init 40 = .ok (.newarray .int, 2) := by decide +kernel
theorem dX6_init_42 : decode cX6_init 42 = .ok (.putfield 22, 3) := by decide +kernel
theorem dX6_init_45 : decode cX6_init 45 = .ok (.aload_n 0, 1) := by decide +kernel
theorem dX6_init_46 : decode cX6_init 46 = .ok (.bipush 120, 2) := by decide +kernel
theorem dX6_init_48 : decode cX6_init 48 = .ok (.newarray .int, 2) := by decide +kernel
theorem dX6_init_50 : decode cX6_init 50 = .ok (.putfield 25, 3) := by decide +kernel
theorem dX6_init_53 : decode cX6_init 53 = .ok (.aload_n 0, 1) := by decide +kernel
theorem dX6_init_54 : decode cX6_init 54 = .ok (.bipush 120, 2) := by decide +kernel
theorem dX6_init_56 : decode cX6_init 56 = .ok (.newarray .int, 2) := by decide +kernel
theorem dX6_init_58 : decode cX6_init 58 = .ok (.putfield 28, 3) := by decide +kernel
theorem dX6_init_61 : decode cX6_init 61 = .ok (.aload_n 0, 1) := by decide +kernel
theorem dX6_init_62 : decode cX6_init 62 = .ok (.bipush 120, 2) := by decide +kernel
theorem dX6_init_64 : decode cX6_init 64 = .ok (.newarray .int, 2) := by decide +kernel
theorem dX6_init_66 : decode cX6_init 66 = .ok (.putfield 31, 3) := by decide +kernel
theorem dX6_init_69 : decode cX6_init 69 = .ok (.aload_n 0, 1) := by decide +kernel
theorem dX6_init_70 : decode cX6_init 70 = .ok (.sipush 1920, 3) := by decide +kernel
theorem dX6_init_73 : decode cX6_init 73 = .ok (.newarray .int, 2) := by decide +kernel
theorem dX6_init_75 : decode cX6_init 75 = .ok (.putfield 34, 3) := by decide +kernel
theorem dX6_init_78 : decode cX6_init 78 = .ok (.aload_n 0, 1) := by decide +kernel
theorem dX6_init_79 : decode cX6_init 79 = .ok (.bipush 16, 2) := by decide +kernel
theorem dX6_init_81 : decode cX6_init 81 = .ok (.newarray .int, 2) := by decide +kernel
theorem dX6_init_83 : decode cX6_init 83 = .ok (.putfield 37, 3) := by decide +kernel
theorem dX6_init_86 : decode cX6_init 86 = .ok (.aload_n 0, 1) := by decide +kernel
theorem dX6_init_87 : decode cX6_init 87 = .ok (.bipush 16, 2) := by decide +kernel
theorem dX6_init_89 : decode cX6_init 89 = .ok (.newarray .int, 2) := by decide +kernel
theorem dX6_init_91 : decode cX6_init 91 = .ok (.putfield 40, 3) := by decide +kernel
theorem dX6_init_94 : decode cX6_init 94 = .ok (.aload_n 0, 1) := by decide +kernel
theorem dX6_init_95 : decode cX6_init 95 = .ok (.bipush 9, 2) := by decide +kernel
theorem dX6_init_97 : decode cX6_init 97 = .ok (.newarray .int, 2) := by decide +kernel
theorem dX6_init_99 : decode cX6_init 99 = .ok (.putfield 43, 3) := by decide +kernel
theorem dX6_init_102 : decode cX6_init 102 = .ok (.aload_n 0, 1) := by decide +kernel
theorem dX6_init_103 : decode cX6_init 103 = .ok (.sipush 300, 3) := by decide +kernel
theorem dX6_init_106 : decode cX6_init 106 = .ok (.newarray .int, 2) := by decide +kernel
theorem dX6_init_108 : decode cX6_init 108 = .ok (.putfield 46, 3) := by decide +kernel
theorem dX6_init_111 : decode cX6_init 111 = .ok (.aload_n 0, 1) := by decide +kernel
theorem dX6_init_112 : decode cX6_init 112 = .ok (.iload_n 1, 1) := by decide +kernel
theorem dX6_init_113 : decode cX6_init 113 = .ok (.iconst 4, 1) := by decide +kernel
theorem dX6_init_114 : decode cX6_init 114 = .ok (.invokestatic 49, 3) := by decide +kernel
theorem dX6_init_117 : decode cX6_init 117 = .ok (.putfield 53, 3) := by decide +kernel
theorem dX6_init_120 : decode cX6_init 120 = .ok (.aload_n 0, 1) := by decide +kernel
theorem dX6_init_121 : decode cX6_init 121 = .ok (.iload_n 2, 1) := by decide +kernel
theorem dX6_init_122 : decode cX6_init 122 = .ok (.iconst 4, 1) := by decide +kernel
theorem dX6_init_123 : decode cX6_init 123 = .ok (.invokestatic 49, 3) := by decide +kernel
theorem dX6_init_126 : decode cX6_init 126 = .ok (.putfield 57, 3) := by decide +kernel
theorem dX6_init_129 : decode cX6_init 129 = .ok (.aload_n 0, 1) := by decide +kernel
theorem dX6_init_130 : decode cX6_init 130 = .ok (.iload_n 3, 1) := by decide +kernel
theorem dX6_init_131 : decode cX6_init 131 = .ok (.bipush 6, 2) := by decide +kernel
theorem dX6_init_133 : decode cX6_init 133 = .ok (.invokestatic 49, 3) := by decide +kernel
theorem dX6_init_136 : decode cX6_init 136 = .ok (.putfield 60, 3) := by decide +kernel
theorem dX6_init_139 : decode cX6_init 139 = .ok (.iconst 0, 1) := by decide +kernel
theorem dX6_init_140 : decode cX6_init 140 = .ok (.istore 4, 2) := by decide +kernel
theorem dX6_init_142 : decode cX6_init 142 = .ok (.iload 4, 2) := by decide +kernel
theorem dX6_init_144 : decode cX6_init 144 = .ok (.bipush 16, 2) := by decide +kernel
theorem dX6_init_146 : decode cX6_init 146 = .ok (.if_icmp .ge 17, 3) := by decide +kernel
theorem dX6_init_149 : decode cX6_init 149 = .ok (.aload_n 0, 1) := by decide +kernel
theorem dX6_init_150 : decode cX6_init 150 = .ok (.getfield 22, 3) := by decide +kernel
theorem dX6_init_153 : decode cX6_init 153 = .ok (.iload 4, 2) := by decide +kernel
theorem dX6_init_155 : decode cX6_init 155 = .ok (.iconst (-1), 1) := by decide +kernel
theorem dX6_init_156 : decode cX6_init 156 = .ok (.iastore, 1) := by decide +kernel
theorem dX6_init_157 : decode cX6_init 157 = .ok (.iinc 4 1, 3) := by decide +kernel
theorem dX6_init_160 : decode cX6_init 160 = .ok (.goto (-18), 3) := by decide +kernel
theorem dX6_init_163 : decode cX6_init 163 = .ok (.return_, 1) := by decide +kernel
theorem dX6_thrown_0 : decode cX6_thrown 0 = .ok (.aload_n 0, 1) := by decide +kernel
theorem dX6_thrown_1 : decode cX6_thrown 1 = .ok (.getfield 63, 3) := by decide +kernel
theorem dX6_thrown_4 : decode cX6_thrown 4 = .ok (.ireturn, 1) := by decide +kernel
theorem dX6_throwsIf_0 : decode cX6_throwsIf 0 = .ok (.aload_n 0, 1) := by decide +kernel
theorem dX6_throwsIf_1 : decode cX6_throwsIf 1 = .ok (.iload_n 2, 1) := by decide +kernel
theorem dX6_throwsIf_2 : decode cX6_throwsIf 2 = .ok (.ifCond .eq 7, 3) := by decide +kernel
theorem dX6_throwsIf_5 : decode cX6_throwsIf 5 = .ok (.iload_n 1, 1) := by decide +kernel
theorem dX6_throwsIf_6 : decode cX6_throwsIf 6 = .ok (.goto 4, 3) := by decide +kernel
theorem dX6_throwsIf_9 : decode cX6_throwsIf 9 = .ok (.iconst 0, 1) := by decide +kernel
theorem dX6_throwsIf_10 : decode cX6_throwsIf 10 = .ok (.putfield 63, 3) := by decide +kernel
theorem dX6_throwsIf_13 : decode cX6_throwsIf 13 = .ok (.iload_n 2, 1) := by decide +kernel
theorem dX6_throwsIf_14 : decode cX6_throwsIf 14 = .ok (.ireturn, 1) := by decide +kernel
theorem dX6_held_0 : decode cX6_held 0 = .ok (.iload_n 0, 1) := by decide +kernel
theorem dX6_held_1 : decode cX6_held 1 = .ok (.iconst 1, 1) := by decide +kernel
theorem dX6_held_2 : decode cX6_held 2 = .ok (.if_icmp .ge 7, 3) := by decide +kernel
theorem dX6_held_5 : decode cX6_held 5 = .ok (.iconst 1, 1) := by decide +kernel
theorem dX6_held_6 : decode cX6_held 6 = .ok (.goto 13, 3) := by decide +kernel
theorem dX6_held_9 : decode cX6_held 9 = .ok (.iload_n 0, 1) := by decide +kernel
theorem dX6_held_10 : decode cX6_held 10 = .ok (.iload_n 1, 1) := by decide +kernel
theorem dX6_held_11 : decode cX6_held 11 = .ok (.if_icmp .le 7, 3) := by decide +kernel
theorem dX6_held_14 : decode cX6_held 14 = .ok (.iload_n 1, 1) := by decide +kernel
theorem dX6_held_15 : decode cX6_held 15 = .ok (.goto 4, 3) := by decide +kernel
theorem dX6_held_18 : decode cX6_held 18 = .ok (.iload_n 0, 1) := by decide +kernel
theorem dX6_held_19 : decode cX6_held 19 = .ok (.ireturn, 1) := by decide +kernel
theorem dX6_cells_0 : decode cX6_cells 0 = .ok (.aload_n 0, 1) := by decide +kernel
theorem dX6_cells_1 : decode cX6_cells 1 = .ok (.getfield 53, 3) := by decide +kernel
theorem dX6_cells_4 : decode cX6_cells 4 = .ok (.aload_n 0, 1) := by decide +kernel
theorem dX6_cells_5 : decode cX6_cells 5 = .ok (.getfield 57, 3) := by decide +kernel
theorem dX6_cells_8 : decode cX6_cells 8 = .ok (.imul, 1) := by decide +kernel
theorem dX6_cells_9 : decode cX6_cells 9 = .ok (.ireturn, 1) := by decide +kernel
set_option maxRecDepth 20000 in
theorem ggX6_isCell_X6_cells : GoodIn wsX6_isCell wsX6_cells := goodIn_r _ [5, 6, 7, 8, 9, 10, 11, 12, 13, 14, 15, 16, 17, 18, 19, 20, 21, 22, 23, 24, 25, 26, 27, 28, 29, 30] (by decide +kernel) (by decide +kernel)
set_option maxRecDepth 20000 in
theorem gX6_isCell_X6_cells : GoodIn wsX6_isCell (wsV RX6 66 RX6 yX6_cells wsX6_cells) := goodIn_app (goodIn_of _ (by decide +kernel)) ggX6_isCell_X6_cells
theorem dX6_isCell_0 : decode cX6_isCell 0 = .ok (.iload_n 1, 1) := by decide +kernel
theorem dX6_isCell_1 : decode cX6_isCell 1 = .ok (.ifCond .lt 15, 3) := by decide +kernel
theorem dX6_isCell_4 : decode cX6_isCell 4 = .ok (.iload_n 1, 1) := by decide +kernel
theorem dX6_isCell_5 : decode cX6_isCell 5 = .ok (.aload_n 0, 1) := by decide +kernel
theorem dX6_isCell_6 : decode cX6_isCell 6 = .ok (.invokevirtual 66, 3) := by decide +kernel
theorem dX6_isCell_9 : decode cX6_isCell 9 = .ok (.if_icmp .ge 7, 3) := by decide +kernel
theorem dX6_isCell_12 : decode cX6_isCell 12 = .ok (.iconst 1, 1) := by decide +kernel
theorem dX6_isCell_13 : decode cX6_isCell 13 = .ok (.goto 4, 3) := by decide +kernel
theorem dX6_isCell_16 : decode cX6_isCell 16 = .ok (.iconst 0, 1) := by decide +kernel
theorem dX6_isCell_17 : decode cX6_isCell 17 = .ok (.ireturn, 1) := by decide +kernel
theorem dX6_isSymbol_0 : decode cX6_isSymbol 0 = .ok (.iload_n 1, 1) := by decide +kernel
theorem dX6_isSymbol_1 : decode cX6_isSymbol 1 = .ok (.ifCond .lt 15, 3) := by decide +kernel
theorem dX6_isSymbol_4 : decode cX6_isSymbol 4 = .ok (.iload_n 1, 1) := by decide +kernel
theorem dX6_isSymbol_5 : decode cX6_isSymbol 5 = .ok (.aload_n 0, 1) := by decide +kernel
theorem dX6_isSymbol_6 : decode cX6_isSymbol 6 = .ok (.getfield 60, 3) := by decide +kernel
theorem dX6_isSymbol_9 : decode cX6_isSymbol 9 = .ok (.if_icmp .ge 7, 3) := by decide +kernel
theorem dX6_isSymbol_12 : decode cX6_isSymbol 12 = .ok (.iconst 1, 1) := by decide +kernel
theorem dX6_isSymbol_13 : decode cX6_isSymbol 13 = .ok (.goto 4, 3) := by decide +kernel
theorem dX6_isSymbol_16 : decode cX6_isSymbol 16 = .ok (.iconst 0, 1) := by decide +kernel
theorem dX6_isSymbol_17 : decode cX6_isSymbol 17 = .ok (.ireturn, 1) := by decide +kernel
theorem dX6_rule_0 : decode cX6_rule 0 = .ok (.aload_n 0, 1) := by decide +kernel
theorem dX6_rule_1 : decode cX6_rule 1 = .ok (.iconst 0, 1) := by decide +kernel
theorem dX6_rule_2 : decode cX6_rule 2 = .ok (.putfield 63, 3) := by decide +kernel
theorem dX6_rule_5 : decode cX6_rule 5 = .ok (.iload_n 1, 1) := by decide +kernel
theorem dX6_rule_6 : decode cX6_rule 6 = .ok (.ifCond .lt 27, 3) := by decide +kernel
theorem dX6_rule_9 : decode cX6_rule 9 = .ok (.iload_n 1, 1) := by decide +kernel
theorem dX6_rule_10 : decode cX6_rule 10 = .ok (.iconst 4, 1) := by decide +kernel
theorem dX6_rule_11 : decode cX6_rule 11 = .ok (.if_icmp .gt 22, 3) := by decide +kernel
theorem dX6_rule_14 : decode cX6_rule 14 = .ok (.iload_n 2, 1) := by decide +kernel
theorem dX6_rule_15 : decode cX6_rule 15 = .ok (.ifCond .lt 18, 3) := by decide +kernel
theorem dX6_rule_18 : decode cX6_rule 18 = .ok (.iload_n 2, 1) := by decide +kernel
theorem dX6_rule_19 : decode cX6_rule 19 = .ok (.bipush 99, 2) := by decide +kernel
theorem dX6_rule_21 : decode cX6_rule 21 = .ok (.if_icmp .gt 12, 3) := by decide +kernel
theorem dX6_rule_24 : decode cX6_rule 24 = .ok (.aload_n 0, 1) := by decide +kernel
theorem dX6_rule_25 : decode cX6_rule 25 = .ok (.getfield 70, 3) := by decide +kernel
theorem dX6_rule_28 : decode cX6_rule 28 = .ok (.bipush 30, 2) := by decide +kernel
theorem dX6_rule_30 : decode cX6_rule 30 = .ok (.if_icmp .ne 5, 3) := by decide +kernel
theorem dX6_rule_33 : decode cX6_rule 33 = .ok (.iconst (-1), 1) := by decide +kernel
theorem dX6_rule_34 : decode cX6_rule 34 = .ok (.ireturn, 1) := by decide +kernel
theorem dX6_rule_35 : decode cX6_rule 35 = .ok (.aload_n 0, 1) := by decide +kernel
theorem dX6_rule_36 : decode cX6_rule 36 = .ok (.getfield 7, 3) := by decide +kernel
theorem dX6_rule_39 : decode cX6_rule 39 = .ok (.aload_n 0, 1) := by decide +kernel
theorem dX6_rule_40 : decode cX6_rule 40 = .ok (.getfield 70, 3) := by decide +kernel
theorem dX6_rule_43 : decode cX6_rule 43 = .ok (.iload_n 1, 1) := by decide +kernel
theorem dX6_rule_44 : decode cX6_rule 44 = .ok (.iastore, 1) := by decide +kernel
theorem dX6_rule_45 : decode cX6_rule 45 = .ok (.aload_n 0, 1) := by decide +kernel
theorem dX6_rule_46 : decode cX6_rule 46 = .ok (.getfield 13, 3) := by decide +kernel
theorem dX6_rule_49 : decode cX6_rule 49 = .ok (.aload_n 0, 1) := by decide +kernel
theorem dX6_rule_50 : decode cX6_rule 50 = .ok (.getfield 70, 3) := by decide +kernel
theorem dX6_rule_53 : decode cX6_rule 53 = .ok (.iload_n 2, 1) := by decide +kernel
theorem dX6_rule_54 : decode cX6_rule 54 = .ok (.iastore, 1) := by decide +kernel
theorem dX6_rule_55 : decode cX6_rule 55 = .ok (.aload_n 0, 1) := by decide +kernel
theorem dX6_rule_56 : decode cX6_rule 56 = .ok (.getfield 16, 3) := by decide +kernel
theorem dX6_rule_59 : decode cX6_rule 59 = .ok (.aload_n 0, 1) := by decide +kernel
theorem dX6_rule_60 : decode cX6_rule 60 = .ok (.getfield 70, 3) := by decide +kernel
theorem dX6_rule_63 : decode cX6_rule 63 = .ok (.iconst 0, 1) := by decide +kernel
theorem dX6_rule_64 : decode cX6_rule 64 = .ok (.iastore, 1) := by decide +kernel
theorem dX6_rule_65 : decode cX6_rule 65 = .ok (.aload_n 0, 1) := by decide +kernel
theorem dX6_rule_66 : decode cX6_rule 66 = .ok (.dup, 1) := by decide +kernel
theorem dX6_rule_67 : decode cX6_rule 67 = .ok (.getfield 70, 3) := by decide +kernel
theorem dX6_rule_70 : decode cX6_rule 70 = .ok (.iconst 1, 1) := by decide +kernel
theorem dX6_rule_71 : decode cX6_rule 71 = .ok (.iadd, 1) := by decide +kernel
theorem dX6_rule_72 : decode cX6_rule 72 = .ok (.putfield 70, 3) := by decide +kernel
theorem dX6_rule_75 : decode cX6_rule 75 = .ok (.aload_n 0, 1) := by decide +kernel
theorem dX6_rule_76 : decode cX6_rule 76 = .ok (.getfield 70, 3) := by decide +kernel
theorem dX6_rule_79 : decode cX6_rule 79 = .ok (.iconst 1, 1) := by decide +kernel
theorem dX6_rule_80 : decode cX6_rule 80 = .ok (.isub, 1) := by decide +kernel
theorem dX6_rule_81 : decode cX6_rule 81 = .ok (.ireturn, 1) := by decide +kernel
theorem dX6_member_0 : decode cX6_member 0 = .ok (.aload_n 0, 1) := by decide +kernel
theorem dX6_member_1 : decode cX6_member 1 = .ok (.getfield 19, 3) := by decide +kernel
theorem dX6_member_4 : decode cX6_member 4 = .ok (.bipush 9, 2) := by decide +kernel
theorem dX6_member_6 : decode cX6_member 6 = .ok (.iload_n 1, 1) := by decide +kernel
theorem dX6_member_7 : decode cX6_member 7 = .ok (.imul, 1) := by decide +kernel
theorem dX6_member_8 : decode cX6_member 8 = .ok (.iload_n 2, 1) := by decide +kernel
theorem dX6_member_9 : decode cX6_member 9 = .ok (.iadd, 1) := by decide +kernel
theorem dX6_member_10 : decode cX6_member 10 = .ok (.iaload, 1) := by decide +kernel
theorem dX6_member_11 : decode cX6_member 11 = .ok (.ireturn, 1) := by decide +kernel
set_option maxRecDepth 20000 in
theorem ggX6_seat_X6_member : GoodIn wsX6_seat wsX6_member := goodIn_r _ [6, 7, 8, 9, 10, 11, 12, 13, 14, 15, 16, 17, 18, 19, 20, 21, 22, 23, 24, 25, 26, 27, 28, 29, 30] (by decide +kernel) (by decide +kernel)
set_option maxRecDepth 20000 in
theorem gX6_seat_X6_member : GoodIn wsX6_seat (wsV RX6 73 RX6 yX6_member wsX6_member) := goodIn_app (goodIn_of _ (by decide +kernel)) ggX6_seat_X6_member
theorem dX6_seat_0 : decode cX6_seat 0 = .ok (.iconst 0, 1) := by decide +kernel
theorem dX6_seat_1 : decode cX6_seat 1 = .ok (.istore_n 3, 1) := by decide +kernel
theorem dX6_seat_2 : decode cX6_seat 2 = .ok (.iload_n 3, 1) := by decide +kernel
theorem dX6_seat_3 : decode cX6_seat 3 = .ok (.aload_n 0, 1) := by decide +kernel
theorem dX6_seat_4 : decode cX6_seat 4 = .ok (.getfield 16, 3) := by decide +kernel
theorem dX6_seat_7 : decode cX6_seat 7 = .ok (.iload_n 1, 1) := by decide +kernel
theorem dX6_seat_8 : decode cX6_seat 8 = .ok (.iaload, 1) := by decide +kernel
theorem dX6_seat_9 : decode cX6_seat 9 = .ok (.if_icmp .ge 21, 3) := by decide +kernel
theorem dX6_seat_12 : decode cX6_seat 12 = .ok (.aload_n 0, 1) := by decide +kernel
theorem dX6_seat_13 : decode cX6_seat 13 = .ok (.iload_n 1, 1) := by decide +kernel
theorem dX6_seat_14 : decode cX6_seat 14 = .ok (.iload_n 3, 1) := by decide +kernel
theorem dX6_seat_15 : decode cX6_seat 15 = .ok (.invokevirtual 73, 3) := by decide +kernel
theorem dX6_seat_18 : decode cX6_seat 18 = .ok (.iload_n 2, 1) := by decide +kernel
theorem dX6_seat_19 : decode cX6_seat 19 = .ok (.if_icmp .ne 5, 3) := by decide +kernel
theorem dX6_seat_22 : decode cX6_seat 22 = .ok (.iload_n 3, 1) := by decide +kernel
theorem dX6_seat_23 : decode cX6_seat 23 = .ok (.ireturn, 1) := by decide +kernel
theorem dX6_seat_24 : decode cX6_seat 24 = .ok (.iinc 3 1, 3) := by decide +kernel
theorem dX6_seat_27 : decode cX6_seat 27 = .ok (.goto (-25), 3) := by decide +kernel
theorem dX6_seat_30 : decode cX6_seat 30 = .ok (.iconst (-1), 1) := by decide +kernel
theorem dX6_seat_31 : decode cX6_seat 31 = .ok (.ireturn, 1) := by decide +kernel
set_option maxRecDepth 20000 in
theorem ggX6_into_X6_isCell : GoodIn wsX6_into wsX6_isCell := goodIn_r _ [8, 9, 10, 11, 7, 12, 13, 14, 28, 29, 30, 31, 32, 33, 34, 35, 36, 37, 38, 39, 40, 41, 42, 43, 44, 45, 46, 47, 48, 49, 50] (by decide +kernel) (by decide +kernel)
set_option maxRecDepth 20000 in
theorem gX6_into_X6_isCell : GoodIn wsX6_into (wsV RX6 76 RX6 yX6_isCell wsX6_isCell) := goodIn_app (goodIn_of _ (by decide +kernel)) ggX6_into_X6_isCell
set_option maxRecDepth 20000 in
theorem ggX6_into_X6_throwsIf : GoodIn wsX6_into wsX6_throwsIf := goodIn_r _ [18, 19, 28, 29, 30, 31, 32, 33, 34, 35, 36, 37, 38, 39, 40, 41, 42, 43, 44, 45, 46, 47, 48, 49, 50] (by decide +kernel) (by decide +kernel)
set_option maxRecDepth 20000 in
theorem gX6_into_X6_throwsIf : GoodIn wsX6_into (wsV RX6 80 RX6 yX6_throwsIf wsX6_throwsIf) := goodIn_app (goodIn_of _ (by decide +kernel)) ggX6_into_X6_throwsIf
set_option maxRecDepth 20000 in
theorem ggX6_into_X6_seat : GoodIn wsX6_into wsX6_seat := goodIn_r _ [23, 2, 24, 25, 26, 7, 27, 3, 28, 29, 30, 31, 32, 33, 34, 35, 36, 37, 38, 39, 40, 41, 42, 43, 44, 45, 46, 47, 48, 49, 50] (by decide +kernel) (by decide +kernel)
set_option maxRecDepth 20000 in
theorem gX6_into_X6_seat : GoodIn wsX6_into (wsV RX6 84 RX6 yX6_seat wsX6_seat) := goodIn_app (goodIn_of _ (by decide +kernel)) ggX6_into_X6_seat
theorem dX6_into_0 : decode cX6_into 0 = .ok (.aload_n 0, 1) := by decide +kernel
theorem dX6_into_1 : decode cX6_into 1 = .ok (.iconst 1, 1) := by decide +kernel
theorem dX6_into_2 : decode cX6_into 2 = .ok (.iload_n 1, 1) := by decide +kernel
theorem dX6_into_3 : decode cX6_into 3 = .ok (.ifCond .lt 19, 3) := by decide +kernel
theorem dX6_into_6 : decode cX6_into 6 = .ok (.iload_n 1, 1) := by decide +kernel
theorem dX6_into_7 : decode cX6_into 7 = .ok (.aload_n 0, 1) := by decide +kernel
theorem dX6_into_8 : decode cX6_into 8 = .ok (.getfield 70, 3) := by decide +kernel
theorem dX6_into_11 : decode cX6_into 11 = .ok (.if_icmp .ge 11, 3) := by decide +kernel
theorem dX6_into_14 : decode cX6_into 14 = .ok (.aload_n 0, 1) := by decide +kernel
theorem dX6_into_15 : decode cX6_into 15 = .ok (.iload_n 2, 1) := by decide +kernel
theorem dX6_into_16 : decode cX6_into 16 = .ok (.invokevirtual 76, 3) := by decide +kernel
theorem dX6_into_19 : decode cX6_into 19 = .ok (.ifCond .ne 7, 3) := by decide +kernel
theorem dX6_into_22 : decode cX6_into 22 = .ok (.iconst 1, 1) := by decide +kernel
theorem dX6_into_23 : decode cX6_into 23 = .ok (.goto 4, 3) := by decide +kernel
theorem dX6_into_26 : decode cX6_into 26 = .ok (.iconst 0, 1) := by decide +kernel
theorem dX6_into_27 : decode cX6_into 27 = .ok (.invokevirtual 80, 3) := by decide +kernel
theorem dX6_into_30 : decode cX6_into 30 = .ok (.ifCond .ne 23, 3) := by decide +kernel
theorem dX6_into_33 : decode cX6_into 33 = .ok (.aload_n 0, 1) := by decide +kernel
theorem dX6_into_34 : decode cX6_into 34 = .ok (.iload_n 1, 1) := by decide +kernel
theorem dX6_into_35 : decode cX6_into 35 = .ok (.iload_n 2, 1) := by decide +kernel
theorem dX6_into_36 : decode cX6_into 36 = .ok (.invokevirtual 84, 3) := by decide +kernel
theorem dX6_into_39 : decode cX6_into 39 = .ok (.ifCond .ge 14, 3) := by decide +kernel
theorem dX6_into_42 : decode cX6_into 42 = .ok (.aload_n 0, 1) := by decide +kernel
theorem dX6_into_43 : decode cX6_into 43 = .ok (.getfield 16, 3) := by decide +kernel
theorem dX6_into_46 : decode cX6_into 46 = .ok (.iload_n 1, 1) := by decide +kernel
theorem dX6_into_47 : decode cX6_into 47 = .ok (.iaload, 1) := by decide +kernel
theorem dX6_into_48 : decode cX6_into 48 = .ok (.bipush 9, 2) := by decide +kernel
theorem dX6_into_50 : decode cX6_into 50 = .ok (.if_icmp .ne 5, 3) := by decide +kernel
theorem dX6_into_53 : decode cX6_into 53 = .ok (.iconst 0, 1) := by decide +kernel
theorem dX6_into_54 : decode cX6_into 54 = .ok (.ireturn, 1) := by decide +kernel
theorem dX6_into_55 : decode cX6_into 55 = .ok (.aload_n 0, 1) := by decide +kernel
theorem dX6_into_56 : decode cX6_into 56 = .ok (.getfield 19, 3) := by decide +kernel
theorem dX6_into_59 : decode cX6_into 59 = .ok (.bipush 9, 2) := by decide +kernel
theorem dX6_into_61 : decode cX6_into 61 = .ok (.iload_n 1, 1) := by decide +kernel
theorem dX6_into_62 : decode cX6_into 62 = .ok (.imul, 1) := by decide +kernel
theorem dX6_into_63 : decode cX6_into 63 = .ok (.aload_n 0, 1) := by decide +kernel
theorem dX6_into_64 : decode cX6_into 64 = .ok (.getfield 16, 3) := by decide +kernel
theorem dX6_into_67 : decode cX6_into 67 = .ok (.iload_n 1, 1) := by decide +kernel
theorem dX6_into_68 : decode cX6_into 68 = .ok (.iaload, 1) := by decide +kernel
theorem dX6_into_69 : decode cX6_into 69 = .ok (.iadd, 1) := by decide +kernel
theorem dX6_into_70 : decode cX6_into 70 = .ok (.iload_n 2, 1) := by decide +kernel
theorem dX6_into_71 : decode cX6_into 71 = .ok (.iastore, 1) := by decide +kernel
theorem dX6_into_72 : decode cX6_into 72 = .ok (.aload_n 0, 1) := by decide +kernel
theorem dX6_into_73 : decode cX6_into 73 = .ok (.getfield 16, 3) := by decide +kernel
theorem dX6_into_76 : decode cX6_into 76 = .ok (.iload_n 1, 1) := by decide +kernel
theorem dX6_into_77 : decode cX6_into 77 = .ok (.dup2, 1) := by decide +kernel
theorem dX6_into_78 : decode cX6_into 78 = .ok (.iaload, 1) := by decide +kernel
theorem dX6_into_79 : decode cX6_into 79 = .ok (.iconst 1, 1) := by decide +kernel
theorem dX6_into_80 : decode cX6_into 80 = .ok (.iadd, 1) := by decide +kernel
theorem dX6_into_81 : decode cX6_into 81 = .ok (.iastore, 1) := by decide +kernel
theorem dX6_into_82 : decode cX6_into 82 = .ok (.iconst 1, 1) := by decide +kernel
theorem dX6_into_83 : decode cX6_into 83 = .ok (.ireturn, 1) := by decide +kernel
set_option maxRecDepth 20000 in
theorem ggX6_answer_X6_isCell : GoodIn wsX6_answer wsX6_isCell := goodIn_r _ [6, 7, 8, 9, 5, 10, 11, 12, 23, 24, 25, 26, 27, 28, 29, 30, 31, 32, 33, 34, 35, 36, 37, 38, 39, 40, 41, 42, 43, 44, 45] (by decide +kernel) (by decide +kernel)
set_option maxRecDepth 20000 in
theorem gX6_answer_X6_isCell : GoodIn wsX6_answer (wsV RX6 76 RX6 yX6_isCell wsX6_isCell) := goodIn_app (goodIn_of _ (by decide +kernel)) ggX6_answer_X6_isCell
set_option maxRecDepth 20000 in
theorem ggX6_answer_X6_throwsIf : GoodIn wsX6_answer wsX6_throwsIf := goodIn_r _ [16, 17, 23, 24, 25, 26, 27, 28, 29, 30, 31, 32, 33, 34, 35, 36, 37, 38, 39, 40, 41, 42, 43, 44, 45] (by decide +kernel) (by decide +kernel)
set_option maxRecDepth 20000 in
theorem gX6_answer_X6_throwsIf : GoodIn wsX6_answer (wsV RX6 80 RX6 yX6_throwsIf wsX6_throwsIf) := goodIn_app (goodIn_of _ (by decide +kernel)) ggX6_answer_X6_throwsIf
set_option maxRecDepth 20000 in
theorem ggX6_answer_X6_isSymbol : GoodIn wsX6_answer wsX6_isSymbol := goodIn_r _ [21, 22, 23, 24, 25, 26, 27, 28, 29, 30, 31, 32, 33, 34, 35, 36, 37, 38, 39, 40, 41, 42, 43, 44, 45] (by decide +kernel) (by decide +kernel)
set_option maxRecDepth 20000 in
theorem gX6_answer_X6_isSymbol : GoodIn wsX6_answer (wsV RX6 87 RX6 yX6_isSymbol wsX6_isSymbol) := goodIn_app (goodIn_of _ (by decide +kernel)) ggX6_answer_X6_isSymbol
theorem dX6_answer_0 : decode cX6_answer 0 = .ok (.aload_n 0, 1) := by decide +kernel
theorem dX6_answer_1 : decode cX6_answer 1 = .ok (.iconst 1, 1) := by decide +kernel
theorem dX6_answer_2 : decode cX6_answer 2 = .ok (.aload_n 0, 1) := by decide +kernel
theorem dX6_answer_3 : decode cX6_answer 3 = .ok (.iload_n 1, 1) := by decide +kernel
theorem dX6_answer_4 : decode cX6_answer 4 = .ok (.invokevirtual 76, 3) := by decide +kernel
theorem dX6_answer_7 : decode cX6_answer 7 = .ok (.ifCond .ne 7, 3) := by decide +kernel
theorem dX6_answer_10 : decode cX6_answer 10 = .ok (.iconst 1, 1) := by decide +kernel
theorem dX6_answer_11 : decode cX6_answer 11 = .ok (.goto 4, 3) := by decide +kernel
theorem dX6_answer_14 : decode cX6_answer 14 = .ok (.iconst 0, 1) := by decide +kernel
theorem dX6_answer_15 : decode cX6_answer 15 = .ok (.invokevirtual 80, 3) := by decide +kernel
theorem dX6_answer_18 : decode cX6_answer 18 = .ok (.ifCond .ne 39, 3) := by decide +kernel
theorem dX6_answer_21 : decode cX6_answer 21 = .ok (.aload_n 0, 1) := by decide +kernel
theorem dX6_answer_22 : decode cX6_answer 22 = .ok (.iconst 2, 1) := by decide +kernel
theorem dX6_answer_23 : decode cX6_answer 23 = .ok (.iload_n 2, 1) := by decide +kernel
theorem dX6_answer_24 : decode cX6_answer 24 = .ok (.iconst (-1), 1) := by decide +kernel
theorem dX6_answer_25 : decode cX6_answer 25 = .ok (.if_icmp .eq 15, 3) := by decide +kernel
theorem dX6_answer_28 : decode cX6_answer 28 = .ok (.aload_n 0, 1) := by decide +kernel
theorem dX6_answer_29 : decode cX6_answer 29 = .ok (.iload_n 2, 1) := by decide +kernel
theorem dX6_answer_30 : decode cX6_answer 30 = .ok (.invokevirtual 87, 3) := by decide +kernel
theorem dX6_answer_33 : decode cX6_answer 33 = .ok (.ifCond .ne 7, 3) := by decide +kernel
theorem dX6_answer_36 : decode cX6_answer 36 = .ok (.iconst 1, 1) := by decide +kernel
theorem dX6_answer_37 : decode cX6_answer 37 = .ok (.goto 4, 3) := by decide +kernel
theorem dX6_answer_40 : decode cX6_answer 40 = .ok (.iconst 0, 1) := by decide +kernel
theorem dX6_answer_41 : decode cX6_answer 41 = .ok (.invokevirtual 80, 3) := by decide +kernel
theorem dX6_answer_44 : decode cX6_answer 44 = .ok (.ifCond .ne 13, 3) := by decide +kernel
theorem dX6_answer_47 : decode cX6_answer 47 = .ok (.aload_n 0, 1) := by decide +kernel
theorem dX6_answer_48 : decode cX6_answer 48 = .ok (.getfield 22, 3) := by decide +kernel
theorem dX6_answer_51 : decode cX6_answer 51 = .ok (.iload_n 1, 1) := by decide +kernel
theorem dX6_answer_52 : decode cX6_answer 52 = .ok (.iaload, 1) := by decide +kernel
theorem dX6_answer_53 : decode cX6_answer 53 = .ok (.iload_n 2, 1) := by decide +kernel
theorem dX6_answer_54 : decode cX6_answer 54 = .ok (.if_icmp .ne 5, 3) := by decide +kernel
theorem dX6_answer_57 : decode cX6_answer 57 = .ok (.iconst 0, 1) := by decide +kernel
theorem dX6_answer_58 : decode cX6_answer 58 = .ok (.ireturn, 1) := by decide +kernel
theorem dX6_answer_59 : decode cX6_answer 59 = .ok (.aload_n 0, 1) := by decide +kernel
theorem dX6_answer_60 : decode cX6_answer 60 = .ok (.getfield 22, 3) := by decide +kernel
theorem dX6_answer_63 : decode cX6_answer 63 = .ok (.iload_n 1, 1) := by decide +kernel
theorem dX6_answer_64 : decode cX6_answer 64 = .ok (.iload_n 2, 1) := by decide +kernel
theorem dX6_answer_65 : decode cX6_answer 65 = .ok (.iastore, 1) := by decide +kernel
theorem dX6_answer_66 : decode cX6_answer 66 = .ok (.iconst 1, 1) := by decide +kernel
theorem dX6_answer_67 : decode cX6_answer 67 = .ok (.ireturn, 1) := by decide +kernel
theorem dX6_isNext_0 : decode cX6_isNext 0 = .ok (.iload_n 1, 1) := by decide +kernel
theorem dX6_isNext_1 : decode cX6_isNext 1 = .ok (.aload_n 0, 1) := by decide +kernel
theorem dX6_isNext_2 : decode cX6_isNext 2 = .ok (.getfield 53, 3) := by decide +kernel
theorem dX6_isNext_5 : decode cX6_isNext 5 = .ok (.irem, 1) := by decide +kernel
theorem dX6_isNext_6 : decode cX6_isNext 6 = .ok (.iload_n 2, 1) := by decide +kernel
theorem dX6_isNext_7 : decode cX6_isNext 7 = .ok (.aload_n 0, 1) := by decide +kernel
theorem dX6_isNext_8 : decode cX6_isNext 8 = .ok (.getfield 53, 3) := by decide +kernel
theorem dX6_isNext_11 : decode cX6_isNext 11 = .ok (.irem, 1) := by decide +kernel
theorem dX6_isNext_12 : decode cX6_isNext 12 = .ok (.isub, 1) := by decide +kernel
theorem dX6_isNext_13 : decode cX6_isNext 13 = .ok (.istore_n 3, 1) := by decide +kernel
theorem dX6_isNext_14 : decode cX6_isNext 14 = .ok (.iload_n 1, 1) := by decide +kernel
theorem dX6_isNext_15 : decode cX6_isNext 15 = .ok (.aload_n 0, 1) := by decide +kernel
theorem dX6_isNext_16 : decode cX6_isNext 16 = .ok (.getfield 53, 3) := by decide +kernel
theorem dX6_isNext_19 : decode cX6_isNext 19 = .ok (.idiv, 1) := by decide +kernel
theorem dX6_isNext_20 : decode cX6_isNext 20 = .ok (.iload_n 2, 1) := by decide +kernel
theorem dX6_isNext_21 : decode cX6_isNext 21 = .ok (.aload_n 0, 1) := by decide +kernel
theorem dX6_isNext_22 : decode cX6_isNext 22 = .ok (.getfield 53, 3) := by decide +kernel
theorem dX6_isNext_25 : decode cX6_isNext 25 = .ok (.idiv, 1) := by decide +kernel
theorem dX6_isNext_26 : decode cX6_isNext 26 = .ok (.isub, 1) := by decide +kernel
theorem dX6_isNext_27 : decode cX6_isNext 27 = .ok (.istore 4, 2) := by decide +kernel
theorem dX6_isNext_29 : decode cX6_isNext 29 = .ok (.iload_n 3, 1) := by decide +kernel
theorem dX6_isNext_30 : decode cX6_isNext 30 = .ok (.iload_n 3, 1) := by decide +kernel
theorem dX6_isNext_31 : decode cX6_isNext 31 = .ok (.imul, 1) := by decide +kernel
theorem dX6_isNext_32 : decode cX6_isNext 32 = .ok (.iload 4, 2) := by decide +kernel
theorem dX6_isNext_34 : decode cX6_isNext 34 = .ok (.iload 4, 2) := by decide +kernel
theorem dX6_isNext_36 : decode cX6_isNext 36 = .ok (.imul, 1) := by decide +kernel
theorem dX6_isNext_37 : decode cX6_isNext 37 = .ok (.iadd, 1) := by decide +kernel
theorem dX6_isNext_38 : decode cX6_isNext 38 = .ok (.iconst 1, 1) := by decide +kernel
theorem dX6_isNext_39 : decode cX6_isNext 39 = .ok (.if_icmp .ne 7, 3) := by decide +kernel
theorem dX6_isNext_42 : decode cX6_isNext 42 = .ok (.iconst 1, 1) := by decide +kernel
theorem dX6_isNext_43 : decode cX6_isNext 43 = .ok (.goto 4, 3) := by decide +kernel
theorem dX6_isNext_46 : decode cX6_isNext 46 = .ok (.iconst 0, 1) := by decide +kernel
theorem dX6_isNext_47 : decode cX6_isNext 47 = .ok (.ireturn, 1) := by decide +kernel
set_option maxRecDepth 20000 in
theorem ggX6_hangs_X6_member : GoodIn wsX6_hangs wsX6_member := goodIn_r _ [7, 8, 14, 15, 16, 17, 18, 19, 20, 21, 22, 23, 24, 25, 26, 27, 28, 29, 30, 31, 32, 33, 34, 35, 36] (by decide +kernel) (by decide +kernel)
set_option maxRecDepth 20000 in
theorem gX6_hangs_X6_member : GoodIn wsX6_hangs (wsV RX6 73 RX6 yX6_member wsX6_member) := goodIn_app (goodIn_of _ (by decide +kernel)) ggX6_hangs_X6_member
set_option maxRecDepth 20000 in
theorem ggX6_hangs_X6_isNext : GoodIn wsX6_hangs wsX6_isNext := goodIn_r _ [12, 13, 14, 15, 16, 17, 18, 19, 20, 21, 22, 23, 24, 25, 26, 27, 28, 29, 30, 31, 32, 33, 34, 35, 36] (by decide +kernel) (by decide +kernel)
set_option maxRecDepth 20000 in
theorem gX6_hangs_X6_isNext : GoodIn wsX6_hangs (wsV RX6 90 RX6 yX6_isNext wsX6_isNext) := goodIn_app (goodIn_of _ (by decide +kernel)) ggX6_hangs_X6_isNext
theorem dX6_hangs_0 : decode cX6_hangs 0 = .ok (.aload_n 0, 1) := by decide +kernel
theorem dX6_hangs_1 : decode cX6_hangs 1 = .ok (.getfield 16, 3) := by decide +kernel
theorem dX6_hangs_4 : decode cX6_hangs 4 = .ok (.iload_n 1, 1) := by decide +kernel
theorem dX6_hangs_5 : decode cX6_hangs 5 = .ok (.iaload, 1) := by decide +kernel
theorem dX6_hangs_6 : decode cX6_hangs 6 = .ok (.istore_n 2, 1) := by decide +kernel
theorem dX6_hangs_7 : decode cX6_hangs 7 = .ok (.iconst 0, 1) := by decide +kernel
theorem dX6_hangs_8 : decode cX6_hangs 8 = .ok (.istore_n 3, 1) := by decide +kernel
theorem dX6_hangs_9 : decode cX6_hangs 9 = .ok (.iconst 0, 1) := by decide +kernel
theorem dX6_hangs_10 : decode cX6_hangs 10 = .ok (.istore 4, 2) := by decide +kernel
theorem dX6_hangs_12 : decode cX6_hangs 12 = .ok (.iload_n 2, 1) := by decide +kernel
theorem dX6_hangs_13 : decode cX6_hangs 13 = .ok (.iconst 1, 1) := by decide +kernel
theorem dX6_hangs_14 : decode cX6_hangs 14 = .ok (.isub, 1) := by decide +kernel
theorem dX6_hangs_15 : decode cX6_hangs 15 = .ok (.istore 5, 2) := by decide +kernel
theorem dX6_hangs_17 : decode cX6_hangs 17 = .ok (.iload 5, 2) := by decide +kernel
theorem dX6_hangs_19 : decode cX6_hangs 19 = .ok (.ifCond .lt 37, 3) := by decide +kernel
theorem dX6_hangs_22 : decode cX6_hangs 22 = .ok (.aload_n 0, 1) := by decide +kernel
theorem dX6_hangs_23 : decode cX6_hangs 23 = .ok (.getfield 43, 3) := by decide +kernel
theorem dX6_hangs_26 : decode cX6_hangs 26 = .ok (.iload 5, 2) := by decide +kernel
theorem dX6_hangs_28 : decode cX6_hangs 28 = .ok (.iaload, 1) := by decide +kernel
theorem dX6_hangs_29 : decode cX6_hangs 29 = .ok (.iconst 1, 1) := by decide +kernel
theorem dX6_hangs_30 : decode cX6_hangs 30 = .ok (.if_icmp .eq 6, 3) := by decide +kernel
theorem dX6_hangs_33 : decode cX6_hangs 33 = .ok (.goto 17, 3) := by decide +kernel
theorem dX6_hangs_36 : decode cX6_hangs 36 = .ok (.iload 4, 2) := by decide +kernel
theorem dX6_hangs_38 : decode cX6_hangs 38 = .ok (.iconst 1, 1) := by decide +kernel
theorem dX6_hangs_39 : decode cX6_hangs 39 = .ok (.iload 5, 2) := by decide +kernel
theorem dX6_hangs_41 : decode cX6_hangs 41 = .ok (.ishl, 1) := by decide +kernel
theorem dX6_hangs_42 : decode cX6_hangs 42 = .ok (.ior, 1) := by decide +kernel
theorem dX6_hangs_43 : decode cX6_hangs 43 = .ok (.istore 4, 2) := by decide +kernel
theorem dX6_hangs_45 : decode cX6_hangs 45 = .ok (.iconst 1, 1) := by decide +kernel
theorem dX6_hangs_46 : decode cX6_hangs 46 = .ok (.iload 5, 2) := by decide +kernel
theorem dX6_hangs_48 : decode cX6_hangs 48 = .ok (.ishl, 1) := by decide +kernel
theorem dX6_hangs_49 : decode cX6_hangs 49 = .ok (.istore_n 3, 1) := by decide +kernel
theorem dX6_hangs_50 : decode cX6_hangs 50 = .ok (.iinc 5 (-1), 3) := by decide +kernel
theorem dX6_hangs_53 : decode cX6_hangs 53 = .ok (.goto (-36), 3) := by decide +kernel
theorem dX6_hangs_56 : decode cX6_hangs 56 = .ok (.iconst 0, 1) := by decide +kernel
theorem dX6_hangs_57 : decode cX6_hangs 57 = .ok (.istore 5, 2) := by decide +kernel
theorem dX6_hangs_59 : decode cX6_hangs 59 = .ok (.iload 5, 2) := by decide +kernel
theorem dX6_hangs_61 : decode cX6_hangs 61 = .ok (.iload_n 2, 1) := by decide +kernel
theorem dX6_hangs_62 : decode cX6_hangs 62 = .ok (.if_icmp .ge 88, 3) := by decide +kernel
theorem dX6_hangs_65 : decode cX6_hangs 65 = .ok (.iconst 0, 1) := by decide +kernel
theorem dX6_hangs_66 : decode cX6_hangs 66 = .ok (.istore 6, 2) := by decide +kernel
theorem dX6_hangs_68 : decode cX6_hangs 68 = .ok (.iload 6, 2) := by decide +kernel
theorem dX6_hangs_70 : decode cX6_hangs 70 = .ok (.iload_n 2, 1) := by decide +kernel
theorem dX6_hangs_71 : decode cX6_hangs 71 = .ok (.if_icmp .ge 73, 3) := by decide +kernel
theorem dX6_hangs_74 : decode cX6_hangs 74 = .ok (.iconst 0, 1) := by decide +kernel
theorem dX6_hangs_75 : decode cX6_hangs 75 = .ok (.istore 7, 2) := by decide +kernel
theorem dX6_hangs_77 : decode cX6_hangs 77 = .ok (.iload 7, 2) := by decide +kernel
theorem dX6_hangs_79 : decode cX6_hangs 79 = .ok (.iload_n 2, 1) := by decide +kernel
theorem dX6_hangs_80 : decode cX6_hangs 80 = .ok (.if_icmp .ge 58, 3) := by decide +kernel
theorem dX6_hangs_83 : decode cX6_hangs 83 = .ok (.iload_n 3, 1) := by decide +kernel
theorem dX6_hangs_84 : decode cX6_hangs 84 = .ok (.iload 6, 2) := by decide +kernel
theorem dX6_hangs_86 : decode cX6_hangs 86 = .ok (.ishr, 1) := by decide +kernel
theorem dX6_hangs_87 : decode cX6_hangs 87 = .ok (.iconst 1, 1) := by decide +kernel
theorem dX6_hangs_88 : decode cX6_hangs 88 = .ok (.iand, 1) := by decide +kernel
theorem dX6_hangs_89 : decode cX6_hangs 89 = .ok (.iconst 1, 1) := by decide +kernel
theorem dX6_hangs_90 : decode cX6_hangs 90 = .ok (.if_icmp .ne 42, 3) := by decide +kernel
theorem dX6_hangs_93 : decode cX6_hangs 93 = .ok (.iload 4, 2) := by decide +kernel
theorem dX6_hangs_95 : decode cX6_hangs 95 = .ok (.iload 7, 2) := by decide +kernel
theorem dX6_hangs_97 : decode cX6_hangs 97 = .ok (.ishr, 1) := by decide +kernel
theorem dX6_hangs_98 : decode cX6_hangs 98 = .ok (.iconst 1, 1) := by decide +kernel
theorem dX6_hangs_99 : decode cX6_hangs 99 = .ok (.iand, 1) := by decide +kernel
theorem dX6_hangs_100 : decode cX6_hangs 100 = .ok (.iconst 1, 1) := by decide +kernel
theorem dX6_hangs_101 : decode cX6_hangs 101 = .ok (.if_icmp .ne 31, 3) := by decide +kernel
theorem dX6_hangs_104 : decode cX6_hangs 104 = .ok (.aload_n 0, 1) := by decide +kernel
theorem dX6_hangs_105 : decode cX6_hangs 105 = .ok (.aload_n 0, 1) := by decide +kernel
theorem dX6_hangs_106 : decode cX6_hangs 106 = .ok (.iload_n 1, 1) := by decide +kernel
theorem dX6_hangs_107 : decode cX6_hangs 107 = .ok (.iload 6, 2) := by decide +kernel
theorem dX6_hangs_109 : decode cX6_hangs 109 = .ok (.invokevirtual 73, 3) := by decide +kernel
theorem dX6_hangs_112 : decode cX6_hangs 112 = .ok (.aload_n 0, 1) := by decide +kernel
theorem dX6_hangs_113 : decode cX6_hangs 113 = .ok (.iload_n 1, 1) := by decide +kernel
theorem dX6_hangs_114 : decode cX6_hangs 114 = .ok (.iload 7, 2) := by decide +kernel
theorem dX6_hangs_116 : decode cX6_hangs 116 = .ok (.invokevirtual 73, 3) := by decide +kernel
theorem dX6_hangs_119 : decode cX6_hangs 119 = .ok (.invokevirtual 90, 3) := by decide +kernel
theorem dX6_hangs_122 : decode cX6_hangs 122 = .ok (.ifCond .eq 10, 3) := by decide +kernel
theorem dX6_hangs_125 : decode cX6_hangs 125 = .ok (.iload_n 3, 1) := by decide +kernel
theorem dX6_hangs_126 : decode cX6_hangs 126 = .ok (.iconst 1, 1) := by decide +kernel
theorem dX6_hangs_127 : decode cX6_hangs 127 = .ok (.iload 7, 2) := by decide +kernel
theorem dX6_hangs_129 : decode cX6_hangs 129 = .ok (.ishl, 1) := by decide +kernel
theorem dX6_hangs_130 : decode cX6_hangs 130 = .ok (.ior, 1) := by decide +kernel
theorem dX6_hangs_131 : decode cX6_hangs 131 = .ok (.istore_n 3, 1) := by decide +kernel
theorem dX6_hangs_132 : decode cX6_hangs 132 = .ok (.iinc 7 1, 3) := by decide +kernel
theorem dX6_hangs_135 : decode cX6_hangs 135 = .ok (.goto (-58), 3) := by decide +kernel
theorem dX6_hangs_138 : decode cX6_hangs 138 = .ok (.iinc 6 1, 3) := by decide +kernel
theorem dX6_hangs_141 : decode cX6_hangs 141 = .ok (.goto (-73), 3) := by decide +kernel
theorem dX6_hangs_144 : decode cX6_hangs 144 = .ok (.iinc 5 1, 3) := by decide +kernel
theorem dX6_hangs_147 : decode cX6_hangs 147 = .ok (.goto (-88), 3) := by decide +kernel
theorem dX6_hangs_150 : decode cX6_hangs 150 = .ok (.iload_n 3, 1) := by decide +kernel
theorem dX6_hangs_151 : decode cX6_hangs 151 = .ok (.iload 4, 2) := by decide +kernel
theorem dX6_hangs_153 : decode cX6_hangs 153 = .ok (.if_icmp .ne 7, 3) := by decide +kernel
theorem dX6_hangs_156 : decode cX6_hangs 156 = .ok (.iconst 1, 1) := by decide +kernel
theorem dX6_hangs_157 : decode cX6_hangs 157 = .ok (.goto 4, 3) := by decide +kernel
theorem dX6_hangs_160 : decode cX6_hangs 160 = .ok (.iconst 0, 1) := by decide +kernel
theorem dX6_hangs_161 : decode cX6_hangs 161 = .ok (.ireturn, 1) := by decide +kernel
set_option maxRecDepth 20000 in
theorem ggX6_meets_X6_hangs : GoodIn wsX6_meets wsX6_hangs := goodIn_r _ [9, 1, 2, 10, 11, 12, 8, 13, 14, 15, 16, 17, 18, 19, 20, 21, 22, 23, 24, 25, 26, 27, 28, 29, 30, 31, 32, 33, 34, 35, 36, 37, 38, 39, 40, 41, 42] (by decide +kernel) (by decide +kernel)
set_option maxRecDepth 20000 in
theorem gX6_meets_X6_hangs : GoodIn wsX6_meets (wsV RX6 94 RX6 yX6_hangs wsX6_hangs) := goodIn_app (goodIn_of _ (by decide +kernel)) ggX6_meets_X6_hangs
theorem dX6_meets_0 : decode cX6_meets 0 = .ok (.aload_n 0, 1) := by decide +kernel
theorem dX6_meets_1 : decode cX6_meets 1 = .ok (.getfield 16, 3) := by decide +kernel
theorem dX6_meets_4 : decode cX6_meets 4 = .ok (.iload_n 1, 1) := by decide +kernel
theorem dX6_meets_5 : decode cX6_meets 5 = .ok (.iaload, 1) := by decide +kernel
theorem dX6_meets_6 : decode cX6_meets 6 = .ok (.istore_n 2, 1) := by decide +kernel
theorem dX6_meets_7 : decode cX6_meets 7 = .ok (.iconst 0, 1) := by decide +kernel
theorem dX6_meets_8 : decode cX6_meets 8 = .ok (.istore_n 3, 1) := by decide +kernel
theorem dX6_meets_9 : decode cX6_meets 9 = .ok (.iconst 0, 1) := by decide +kernel
theorem dX6_meets_10 : decode cX6_meets 10 = .ok (.istore 4, 2) := by decide +kernel
theorem dX6_meets_12 : decode cX6_meets 12 = .ok (.iconst 1, 1) := by decide +kernel
theorem dX6_meets_13 : decode cX6_meets 13 = .ok (.istore 5, 2) := by decide +kernel
theorem dX6_meets_15 : decode cX6_meets 15 = .ok (.iconst 1, 1) := by decide +kernel
theorem dX6_meets_16 : decode cX6_meets 16 = .ok (.istore 6, 2) := by decide +kernel
theorem dX6_meets_18 : decode cX6_meets 18 = .ok (.iconst 0, 1) := by decide +kernel
theorem dX6_meets_19 : decode cX6_meets 19 = .ok (.istore 7, 2) := by decide +kernel
theorem dX6_meets_21 : decode cX6_meets 21 = .ok (.iload 7, 2) := by decide +kernel
theorem dX6_meets_23 : decode cX6_meets 23 = .ok (.iload_n 2, 1) := by decide +kernel
theorem dX6_meets_24 : decode cX6_meets 24 = .ok (.if_icmp .ge 126, 3) := by decide +kernel
theorem dX6_meets_27 : decode cX6_meets 27 = .ok (.iload_n 3, 1) := by decide +kernel
theorem dX6_meets_28 : decode cX6_meets 28 = .ok (.aload_n 0, 1) := by decide +kernel
theorem dX6_meets_29 : decode cX6_meets 29 = .ok (.getfield 43, 3) := by decide +kernel
theorem dX6_meets_32 : decode cX6_meets 32 = .ok (.iload 7, 2) := by decide +kernel
theorem dX6_meets_34 : decode cX6_meets 34 = .ok (.iaload, 1) := by decide +kernel
theorem dX6_meets_35 : decode cX6_meets 35 = .ok (.iadd, 1) := by decide +kernel
theorem dX6_meets_36 : decode cX6_meets 36 = .ok (.istore_n 3, 1) := by decide +kernel
theorem dX6_meets_37 : decode cX6_meets 37 = .ok (.iload 4, 2) := by decide +kernel
theorem dX6_meets_39 : decode cX6_meets 39 = .ok (.aload_n 0, 1) := by decide +kernel
theorem dX6_meets_40 : decode cX6_meets 40 = .ok (.getfield 43, 3) := by decide +kernel
theorem dX6_meets_43 : decode cX6_meets 43 = .ok (.iload 7, 2) := by decide +kernel
theorem dX6_meets_45 : decode cX6_meets 45 = .ok (.iaload, 1) := by decide +kernel
theorem dX6_meets_46 : decode cX6_meets 46 = .ok (.aload_n 0, 1) := by decide +kernel
theorem dX6_meets_47 : decode cX6_meets 47 = .ok (.getfield 43, 3) := by decide +kernel
theorem dX6_meets_50 : decode cX6_meets 50 = .ok (.iconst 0, 1) := by decide +kernel
theorem dX6_meets_51 : decode cX6_meets 51 = .ok (.iaload, 1) := by decide +kernel
theorem dX6_meets_52 : decode cX6_meets 52 = .ok (.if_icmp .ne 7, 3) := by decide +kernel
theorem dX6_meets_55 : decode cX6_meets 55 = .ok (.iconst 1, 1) := by decide +kernel
theorem dX6_meets_56 : decode cX6_meets 56 = .ok (.goto 4, 3) := by decide +kernel
theorem dX6_meets_59 : decode cX6_meets 59 = .ok (.iconst 0, 1) := by decide +kernel
theorem dX6_meets_60 : decode cX6_meets 60 = .ok (.iadd, 1) := by decide +kernel
theorem dX6_meets_61 : decode cX6_meets 61 = .ok (.istore 4, 2) := by decide +kernel
theorem dX6_meets_63 : decode cX6_meets 63 = .ok (.iload 6, 2) := by decide +kernel
theorem dX6_meets_65 : decode cX6_meets 65 = .ok (.ifCond .eq 31, 3) := by decide +kernel
theorem dX6_meets_68 : decode cX6_meets 68 = .ok (.iload 7, 2) := by decide +kernel
theorem dX6_meets_70 : decode cX6_meets 70 = .ok (.ifCond .eq 22, 3) := by decide +kernel
theorem dX6_meets_73 : decode cX6_meets 73 = .ok (.aload_n 0, 1) := by decide +kernel
theorem dX6_meets_74 : decode cX6_meets 74 = .ok (.getfield 43, 3) := by decide +kernel
theorem dX6_meets_77 : decode cX6_meets 77 = .ok (.iload 7, 2) := by decide +kernel
theorem dX6_meets_79 : decode cX6_meets 79 = .ok (.iaload, 1) := by decide +kernel
theorem dX6_meets_80 : decode cX6_meets 80 = .ok (.aload_n 0, 1) := by decide +kernel
theorem dX6_meets_81 : decode cX6_meets 81 = .ok (.getfield 43, 3) := by decide +kernel
theorem dX6_meets_84 : decode cX6_meets 84 = .ok (.iload 7, 2) := by decide +kernel
theorem dX6_meets_86 : decode cX6_meets 86 = .ok (.iconst 1, 1) := by decide +kernel
theorem dX6_meets_87 : decode cX6_meets 87 = .ok (.isub, 1) := by decide +kernel
theorem dX6_meets_88 : decode cX6_meets 88 = .ok (.iaload, 1) := by decide +kernel
theorem dX6_meets_89 : decode cX6_meets 89 = .ok (.if_icmp .le 7, 3) := by decide +kernel
theorem dX6_meets_92 : decode cX6_meets 92 = .ok (.iconst 1, 1) := by decide +kernel
theorem dX6_meets_93 : decode cX6_meets 93 = .ok (.goto 4, 3) := by decide +kernel
theorem dX6_meets_96 : decode cX6_meets 96 = .ok (.iconst 0, 1) := by decide +kernel
theorem dX6_meets_97 : decode cX6_meets 97 = .ok (.istore 6, 2) := by decide +kernel
theorem dX6_meets_99 : decode cX6_meets 99 = .ok (.iconst 0, 1) := by decide +kernel
theorem dX6_meets_100 : decode cX6_meets 100 = .ok (.istore 8, 2) := by decide +kernel
theorem dX6_meets_102 : decode cX6_meets 102 = .ok (.iload 8, 2) := by decide +kernel
theorem dX6_meets_104 : decode cX6_meets 104 = .ok (.iload 7, 2) := by decide +kernel
theorem dX6_meets_106 : decode cX6_meets 106 = .ok (.if_icmp .ge 38, 3) := by decide +kernel
theorem dX6_meets_109 : decode cX6_meets 109 = .ok (.iload 5, 2) := by decide +kernel
theorem dX6_meets_111 : decode cX6_meets 111 = .ok (.ifCond .eq 24, 3) := by decide +kernel
theorem dX6_meets_114 : decode cX6_meets 114 = .ok (.aload_n 0, 1) := by decide +kernel
theorem dX6_meets_115 : decode cX6_meets 115 = .ok (.getfield 43, 3) := by decide +kernel
theorem dX6_meets_118 : decode cX6_meets 118 = .ok (.iload 8, 2) := by decide +kernel
theorem dX6_meets_120 : decode cX6_meets 120 = .ok (.iaload, 1) := by decide +kernel
theorem dX6_meets_121 : decode cX6_meets 121 = .ok (.aload_n 0, 1) := by decide +kernel
theorem dX6_meets_122 : decode cX6_meets 122 = .ok (.getfield 43, 3) := by decide +kernel
theorem dX6_meets_125 : decode cX6_meets 125 = .ok (.iload 7, 2) := by decide +kernel
theorem dX6_meets_127 : decode cX6_meets 127 = .ok (.iaload, 1) := by decide +kernel
theorem dX6_meets_128 : decode cX6_meets 128 = .ok (.if_icmp .eq 7, 3) := by decide +kernel
theorem dX6_meets_131 : decode cX6_meets 131 = .ok (.iconst 1, 1) := by decide +kernel
theorem dX6_meets_132 : decode cX6_meets 132 = .ok (.goto 4, 3) := by decide +kernel
theorem dX6_meets_135 : decode cX6_meets 135 = .ok (.iconst 0, 1) := by decide +kernel
theorem dX6_meets_136 : decode cX6_meets 136 = .ok (.istore 5, 2) := by decide +kernel
theorem dX6_meets_138 : decode cX6_meets 138 = .ok (.iinc 8 1, 3) := by decide +kernel
theorem dX6_meets_141 : decode cX6_meets 141 = .ok (.goto (-39), 3) := by decide +kernel
theorem dX6_meets_144 : decode cX6_meets 144 = .ok (.iinc 7 1, 3) := by decide +kernel
theorem dX6_meets_147 : decode cX6_meets 147 = .ok (.goto (-126), 3) := by decide +kernel
theorem dX6_meets_150 : decode cX6_meets 150 = .ok (.aload_n 0, 1) := by decide +kernel
theorem dX6_meets_151 : decode cX6_meets 151 = .ok (.getfield 7, 3) := by decide +kernel
theorem dX6_meets_154 : decode cX6_meets 154 = .ok (.iload_n 1, 1) := by decide +kernel
theorem dX6_meets_155 : decode cX6_meets 155 = .ok (.iaload, 1) := by decide +kernel
theorem dX6_meets_156 : decode cX6_meets 156 = .ok (.tableswitch 75 0 3 #[32, 35, 51, 54], 32) := by decide +kernel
theorem dX6_meets_188 : decode cX6_meets 188 = .ok (.iload 5, 2) := by decide +kernel
theorem dX6_meets_190 : decode cX6_meets 190 = .ok (.ireturn, 1) := by decide +kernel
theorem dX6_meets_191 : decode cX6_meets 191 = .ok (.iload_n 3, 1) := by decide +kernel
theorem dX6_meets_192 : decode cX6_meets 192 = .ok (.aload_n 0, 1) := by decide +kernel
theorem dX6_meets_193 : decode cX6_meets 193 = .ok (.getfield 13, 3) := by decide +kernel
theorem dX6_meets_196 : decode cX6_meets 196 = .ok (.iload_n 1, 1) := by decide +kernel
theorem dX6_meets_197 : decode cX6_meets 197 = .ok (.iaload, 1) := by decide +kernel
theorem dX6_meets_198 : decode cX6_meets 198 = .ok (.if_icmp .ne 7, 3) := by decide +kernel
theorem dX6_meets_201 : decode cX6_meets 201 = .ok (.iconst 1, 1) := by decide +kernel
theorem dX6_meets_202 : decode cX6_meets 202 = .ok (.goto 4, 3) := by decide +kernel
theorem dX6_meets_205 : decode cX6_meets 205 = .ok (.iconst 0, 1) := by decide +kernel
theorem dX6_meets_206 : decode cX6_meets 206 = .ok (.ireturn, 1) := by decide +kernel
theorem dX6_meets_207 : decode cX6_meets 207 = .ok (.iload 6, 2) := by decide +kernel
theorem dX6_meets_209 : decode cX6_meets 209 = .ok (.ireturn, 1) := by decide +kernel
theorem dX6_meets_210 : decode cX6_meets 210 = .ok (.iload_n 2, 1) := by decide +kernel
theorem dX6_meets_211 : decode cX6_meets 211 = .ok (.ifCond .eq 14, 3) := by decide +kernel
theorem dX6_meets_214 : decode cX6_meets 214 = .ok (.iload 4, 2) := by decide +kernel
theorem dX6_meets_216 : decode cX6_meets 216 = .ok (.aload_n 0, 1) := by decide +kernel
theorem dX6_meets_217 : decode cX6_meets 217 = .ok (.getfield 13, 3) := by decide +kernel
theorem dX6_meets_220 : decode cX6_meets 220 = .ok (.iload_n 1, 1) := by decide +kernel
theorem dX6_meets_221 : decode cX6_meets 221 = .ok (.iaload, 1) := by decide +kernel
theorem dX6_meets_222 : decode cX6_meets 222 = .ok (.if_icmp .ne 7, 3) := by decide +kernel
theorem dX6_meets_225 : decode cX6_meets 225 = .ok (.iconst 1, 1) := by decide +kernel
theorem dX6_meets_226 : decode cX6_meets 226 = .ok (.goto 4, 3) := by decide +kernel
theorem dX6_meets_229 : decode cX6_meets 229 = .ok (.iconst 0, 1) := by decide +kernel
theorem dX6_meets_230 : decode cX6_meets 230 = .ok (.ireturn, 1) := by decide +kernel
theorem dX6_meets_231 : decode cX6_meets 231 = .ok (.aload_n 0, 1) := by decide +kernel
theorem dX6_meets_232 : decode cX6_meets 232 = .ok (.iload_n 1, 1) := by decide +kernel
theorem dX6_meets_233 : decode cX6_meets 233 = .ok (.invokevirtual 94, 3) := by decide +kernel
theorem dX6_meets_236 : decode cX6_meets 236 = .ok (.ireturn, 1) := by decide +kernel
set_option maxRecDepth 20000 in
theorem ggX6_testRule_X6_member : GoodIn wsX6_testRule wsX6_member := goodIn_r _ [8, 9, 25, 26, 27, 28, 29, 30, 31, 32, 33, 34, 35, 36, 37, 38, 39, 40, 41, 42, 43, 44, 45, 46, 47] (by decide +kernel) (by decide +kernel)
set_option maxRecDepth 20000 in
theorem gX6_testRule_X6_member : GoodIn wsX6_testRule (wsV RX6 73 RX6 yX6_member wsX6_member) := goodIn_app (goodIn_of _ (by decide +kernel)) ggX6_testRule_X6_member
set_option maxRecDepth 20000 in
theorem ggX6_testRule_X6_meets : GoodIn wsX6_testRule wsX6_meets := goodIn_r _ [13, 1, 2, 14, 15, 16, 17, 18, 7, 19, 4, 5, 6, 8, 9, 20, 21, 22, 23, 24, 25, 26, 27, 28, 29, 30, 31, 32, 33, 34, 35, 36, 37, 38, 39, 40, 41, 42, 43, 44, 45, 46, 47] (by decide +kernel) (by decide +kernel)
set_option maxRecDepth 20000 in
theorem gX6_testRule_X6_meets : GoodIn wsX6_testRule (wsV RX6 97 RX6 yX6_meets wsX6_meets) := goodIn_app (goodIn_of _ (by decide +kernel)) ggX6_testRule_X6_meets
theorem dX6_testRule_0 : decode cX6_testRule 0 = .ok (.iconst 0, 1) := by decide +kernel
theorem dX6_testRule_1 : decode cX6_testRule 1 = .ok (.istore_n 2, 1) := by decide +kernel
theorem dX6_testRule_2 : decode cX6_testRule 2 = .ok (.iload_n 2, 1) := by decide +kernel
theorem dX6_testRule_3 : decode cX6_testRule 3 = .ok (.aload_n 0, 1) := by decide +kernel
theorem dX6_testRule_4 : decode cX6_testRule 4 = .ok (.getfield 16, 3) := by decide +kernel
theorem dX6_testRule_7 : decode cX6_testRule 7 = .ok (.iload_n 1, 1) := by decide +kernel
theorem dX6_testRule_8 : decode cX6_testRule 8 = .ok (.iaload, 1) := by decide +kernel
theorem dX6_testRule_9 : decode cX6_testRule 9 = .ok (.if_icmp .ge 37, 3) := by decide +kernel
theorem dX6_testRule_12 : decode cX6_testRule 12 = .ok (.aload_n 0, 1) := by decide +kernel
theorem dX6_testRule_13 : decode cX6_testRule 13 = .ok (.getfield 43, 3) := by decide +kernel
theorem dX6_testRule_16 : decode cX6_testRule 16 = .ok (.iload_n 2, 1) := by decide +kernel
theorem dX6_testRule_17 : decode cX6_testRule 17 = .ok (.aload_n 0, 1) := by decide +kernel
theorem dX6_testRule_18 : decode cX6_testRule 18 = .ok (.getfield 22, 3) := by decide +kernel
theorem dX6_testRule_21 : decode cX6_testRule 21 = .ok (.aload_n 0, 1) := by decide +kernel
theorem dX6_testRule_22 : decode cX6_testRule 22 = .ok (.iload_n 1, 1) := by decide +kernel
theorem dX6_testRule_23 : decode cX6_testRule 23 = .ok (.iload_n 2, 1) := by decide +kernel
theorem dX6_testRule_24 : decode cX6_testRule 24 = .ok (.invokevirtual 73, 3) := by decide +kernel
theorem dX6_testRule_27 : decode cX6_testRule 27 = .ok (.iaload, 1) := by decide +kernel
theorem dX6_testRule_28 : decode cX6_testRule 28 = .ok (.iastore, 1) := by decide +kernel
theorem dX6_testRule_29 : decode cX6_testRule 29 = .ok (.aload_n 0, 1) := by decide +kernel
theorem dX6_testRule_30 : decode cX6_testRule 30 = .ok (.getfield 43, 3) := by decide +kernel
theorem dX6_testRule_33 : decode cX6_testRule 33 = .ok (.iload_n 2, 1) := by decide +kernel
theorem dX6_testRule_34 : decode cX6_testRule 34 = .ok (.iaload, 1) := by decide +kernel
theorem dX6_testRule_35 : decode cX6_testRule 35 = .ok (.ifCond .ge 5, 3) := by decide +kernel
theorem dX6_testRule_38 : decode cX6_testRule 38 = .ok (.iconst (-1), 1) := by decide +kernel
theorem dX6_testRule_39 : decode cX6_testRule 39 = .ok (.ireturn, 1) := by decide +kernel
theorem dX6_testRule_40 : decode cX6_testRule 40 = .ok (.iinc 2 1, 3) := by decide +kernel
theorem dX6_testRule_43 : decode cX6_testRule 43 = .ok (.goto (-41), 3) := by decide +kernel
theorem dX6_testRule_46 : decode cX6_testRule 46 = .ok (.aload_n 0, 1) := by decide +kernel
theorem dX6_testRule_47 : decode cX6_testRule 47 = .ok (.iload_n 1, 1) := by decide +kernel
theorem dX6_testRule_48 : decode cX6_testRule 48 = .ok (.invokevirtual 97, 3) := by decide +kernel
theorem dX6_testRule_51 : decode cX6_testRule 51 = .ok (.ifCond .eq 7, 3) := by decide +kernel
theorem dX6_testRule_54 : decode cX6_testRule 54 = .ok (.iconst 1, 1) := by decide +kernel
theorem dX6_testRule_55 : decode cX6_testRule 55 = .ok (.goto 4, 3) := by decide +kernel
theorem dX6_testRule_58 : decode cX6_testRule 58 = .ok (.iconst 0, 1) := by decide +kernel
theorem dX6_testRule_59 : decode cX6_testRule 59 = .ok (.ireturn, 1) := by decide +kernel
set_option maxRecDepth 20000 in
theorem ggX6_test_X6_throwsIf : GoodIn wsX6_test wsX6_throwsIf := goodIn_r _ [6, 7, 35, 36, 37, 38, 39, 40, 41, 42, 43, 44, 45, 46, 47, 48, 49, 50, 51, 52, 53, 54, 55, 56, 57] (by decide +kernel) (by decide +kernel)
set_option maxRecDepth 20000 in
theorem gX6_test_X6_throwsIf : GoodIn wsX6_test (wsV RX6 80 RX6 yX6_throwsIf wsX6_throwsIf) := goodIn_app (goodIn_of _ (by decide +kernel)) ggX6_test_X6_throwsIf
set_option maxRecDepth 20000 in
theorem ggX6_test_X6_testRule : GoodIn wsX6_test wsX6_testRule := goodIn_r _ [11, 12, 13, 14, 15, 16, 17, 5, 18, 19, 20, 21, 22, 23, 24, 25, 26, 27, 28, 29, 30, 31, 32, 33, 34, 35, 36, 37, 38, 39, 40, 41, 42, 43, 44, 45, 46, 47, 48, 49, 50, 51, 52, 53, 54, 55, 56, 57] (by decide +kernel) (by decide +kernel)
set_option maxRecDepth 20000 in
theorem gX6_test_X6_testRule : GoodIn wsX6_test (wsV RX6 100 RX6 yX6_testRule wsX6_testRule) := goodIn_app (goodIn_of _ (by decide +kernel)) ggX6_test_X6_testRule
theorem dX6_test_0 : decode cX6_test 0 = .ok (.aload_n 0, 1) := by decide +kernel
theorem dX6_test_1 : decode cX6_test 1 = .ok (.iconst 1, 1) := by decide +kernel
theorem dX6_test_2 : decode cX6_test 2 = .ok (.iload_n 1, 1) := by decide +kernel
theorem dX6_test_3 : decode cX6_test 3 = .ok (.ifCond .lt 11, 3) := by decide +kernel
theorem dX6_test_6 : decode cX6_test 6 = .ok (.iload_n 1, 1) := by decide +kernel
theorem dX6_test_7 : decode cX6_test 7 = .ok (.aload_n 0, 1) := by decide +kernel
theorem dX6_test_8 : decode cX6_test 8 = .ok (.getfield 70, 3) := by decide +kernel
theorem dX6_test_11 : decode cX6_test 11 = .ok (.if_icmp .lt 7, 3) := by decide +kernel
theorem dX6_test_14 : decode cX6_test 14 = .ok (.iconst 1, 1) := by decide +kernel
theorem dX6_test_15 : decode cX6_test 15 = .ok (.goto 4, 3) := by decide +kernel
theorem dX6_test_18 : decode cX6_test 18 = .ok (.iconst 0, 1) := by decide +kernel
theorem dX6_test_19 : decode cX6_test 19 = .ok (.invokevirtual 80, 3) := by decide +kernel
theorem dX6_test_22 : decode cX6_test 22 = .ok (.ifCond .eq 7, 3) := by decide +kernel
theorem dX6_test_25 : decode cX6_test 25 = .ok (.iconst 0, 1) := by decide +kernel
theorem dX6_test_26 : decode cX6_test 26 = .ok (.goto 8, 3) := by decide +kernel
theorem dX6_test_29 : decode cX6_test 29 = .ok (.aload_n 0, 1) := by decide +kernel
theorem dX6_test_30 : decode cX6_test 30 = .ok (.iload_n 1, 1) := by decide +kernel
theorem dX6_test_31 : decode cX6_test 31 = .ok (.invokevirtual 100, 3) := by decide +kernel
theorem dX6_test_34 : decode cX6_test 34 = .ok (.ireturn, 1) := by decide +kernel
set_option maxRecDepth 20000 in
theorem ggX6_firstFailing_X6_testRule : GoodIn wsX6_firstFailing wsX6_testRule := goodIn_r _ [6, 7, 8, 9, 10, 11, 12, 5, 13, 14, 15, 16, 17, 18, 19, 20, 21, 22, 23, 24, 25, 26, 27, 28, 29, 30, 31, 32, 33, 34, 35, 36, 37, 38, 39, 40, 41, 42, 43, 44, 45, 46, 47, 48, 49, 50, 51, 52] (by decide +kernel) (by decide +kernel)
set_option maxRecDepth 20000 in
theorem gX6_firstFailing_X6_testRule : GoodIn wsX6_firstFailing (wsV RX6 100 RX6 yX6_testRule wsX6_testRule) := goodIn_app (goodIn_of _ (by decide +kernel)) ggX6_firstFailing_X6_testRule
theorem dX6_firstFailing_0 : decode cX6_firstFailing 0 = .ok (.iconst 0, 1) := by decide +kernel
theorem dX6_firstFailing_1 : decode cX6_firstFailing 1 = .ok (.istore_n 1, 1) := by decide +kernel
theorem dX6_firstFailing_2 : decode cX6_firstFailing 2 = .ok (.iload_n 1, 1) := by decide +kernel
theorem dX6_firstFailing_3 : decode cX6_firstFailing 3 = .ok (.aload_n 0, 1) := by decide +kernel
theorem dX6_firstFailing_4 : decode cX6_firstFailing 4 = .ok (.getfield 70, 3) := by decide +kernel
theorem dX6_firstFailing_7 : decode cX6_firstFailing 7 = .ok (.if_icmp .ge 20, 3) := by decide +kernel
theorem dX6_firstFailing_10 : decode cX6_firstFailing 10 = .ok (.aload_n 0, 1) := by decide +kernel
theorem dX6_firstFailing_11 : decode cX6_firstFailing 11 = .ok (.iload_n 1, 1) := by decide +kernel
theorem dX6_firstFailing_12 : decode cX6_firstFailing 12 = .ok (.invokevirtual 100, 3) := by decide +kernel
theorem dX6_firstFailing_15 : decode cX6_firstFailing 15 = .ok (.iconst 1, 1) := by decide +kernel
theorem dX6_firstFailing_16 : decode cX6_firstFailing 16 = .ok (.if_icmp .eq 5, 3) := by decide +kernel
theorem dX6_firstFailing_19 : decode cX6_firstFailing 19 = .ok (.iload_n 1, 1) := by decide +kernel
theorem dX6_firstFailing_20 : decode cX6_firstFailing 20 = .ok (.ireturn, 1) := by decide +kernel
theorem dX6_firstFailing_21 : decode cX6_firstFailing 21 = .ok (.iinc 1 1, 3) := by decide +kernel
theorem dX6_firstFailing_24 : decode cX6_firstFailing 24 = .ok (.goto (-22), 3) := by decide +kernel
theorem dX6_firstFailing_27 : decode cX6_firstFailing 27 = .ok (.iconst (-1), 1) := by decide +kernel
theorem dX6_firstFailing_28 : decode cX6_firstFailing 28 = .ok (.ireturn, 1) := by decide +kernel
set_option maxRecDepth 20000 in
theorem ggX6_fails_X6_firstFailing : GoodIn wsX6_fails wsX6_firstFailing := goodIn_r _ [6, 7, 8, 9, 10, 5, 11, 12, 13, 14, 15, 16, 17, 18, 19, 20, 21, 22, 23, 24, 25, 26, 27, 28, 29, 30, 31, 32, 33, 34, 35, 36, 37, 38, 39, 40, 41, 42, 43, 44, 45, 46, 47, 48, 49, 50, 51, 52, 53, 54, 55, 56, 57] (by decide +kernel) (by decide +kernel)
set_option maxRecDepth 20000 in
theorem gX6_fails_X6_firstFailing : GoodIn wsX6_fails (wsV RX6 104 RX6 yX6_firstFailing wsX6_firstFailing) := goodIn_app (goodIn_of _ (by decide +kernel)) ggX6_fails_X6_firstFailing
theorem dX6_fails_0 : decode cX6_fails 0 = .ok (.aload_n 0, 1) := by decide +kernel
theorem dX6_fails_1 : decode cX6_fails 1 = .ok (.iconst 0, 1) := by decide +kernel
theorem dX6_fails_2 : decode cX6_fails 2 = .ok (.putfield 63, 3) := by decide +kernel
theorem dX6_fails_5 : decode cX6_fails 5 = .ok (.aload_n 0, 1) := by decide +kernel
theorem dX6_fails_6 : decode cX6_fails 6 = .ok (.invokevirtual 104, 3) := by decide +kernel
theorem dX6_fails_9 : decode cX6_fails 9 = .ok (.ireturn, 1) := by decide +kernel
set_option maxRecDepth 20000 in
theorem ggX6_line_X6_begin : GoodIn wsX6_line wsX6_begin := goodIn_r _ [7, 8, 9, 10, 11, 12, 13, 14, 15, 16, 17, 18, 19, 20, 21, 22, 23, 24, 25, 26, 27, 28, 29, 30, 31, 32, 33] (by decide +kernel) (by decide +kernel)
set_option maxRecDepth 20000 in
theorem gX6_line_X6_begin : GoodIn wsX6_line (wsV RX6 110 RX6 yX6_begin wsX6_begin) := goodIn_app (goodIn_of _ (by decide +kernel)) ggX6_line_X6_begin
theorem dX6_line_0 : decode cX6_line 0 = .ok (.aload_n 0, 1) := by decide +kernel
theorem dX6_line_1 : decode cX6_line 1 = .ok (.iconst 0, 1) := by decide +kernel
theorem dX6_line_2 : decode cX6_line 2 = .ok (.putfield 63, 3) := by decide +kernel
theorem dX6_line_5 : decode cX6_line 5 = .ok (.iload_n 1, 1) := by decide +kernel
theorem dX6_line_6 : decode cX6_line 6 = .ok (.ifCond .lt 17, 3) := by decide +kernel
theorem dX6_line_9 : decode cX6_line 9 = .ok (.iload_n 1, 1) := by decide +kernel
theorem dX6_line_10 : decode cX6_line 10 = .ok (.iconst 3, 1) := by decide +kernel
theorem dX6_line_11 : decode cX6_line 11 = .ok (.if_icmp .gt 12, 3) := by decide +kernel
theorem dX6_line_14 : decode cX6_line 14 = .ok (.aload_n 0, 1) := by decide +kernel
theorem dX6_line_15 : decode cX6_line 15 = .ok (.getfield 107, 3) := by decide +kernel
theorem dX6_line_18 : decode cX6_line 18 = .ok (.bipush 60, 2) := by decide +kernel
theorem dX6_line_20 : decode cX6_line 20 = .ok (.if_icmp .ne 5, 3) := by decide +kernel
theorem dX6_line_23 : decode cX6_line 23 = .ok (.iconst (-1), 1) := by decide +kernel
theorem dX6_line_24 : decode cX6_line 24 = .ok (.ireturn, 1) := by decide +kernel
theorem dX6_line_25 : decode cX6_line 25 = .ok (.aload_n 0, 1) := by decide +kernel
theorem dX6_line_26 : decode cX6_line 26 = .ok (.aload_n 0, 1) := by decide +kernel
theorem dX6_line_27 : decode cX6_line 27 = .ok (.getfield 107, 3) := by decide +kernel
theorem dX6_line_30 : decode cX6_line 30 = .ok (.iload_n 1, 1) := by decide +kernel
theorem dX6_line_31 : decode cX6_line 31 = .ok (.iload_n 2, 1) := by decide +kernel
theorem dX6_line_32 : decode cX6_line 32 = .ok (.invokevirtual 110, 3) := by decide +kernel
theorem dX6_line_35 : decode cX6_line 35 = .ok (.aload_n 0, 1) := by decide +kernel
theorem dX6_line_36 : decode cX6_line 36 = .ok (.dup, 1) := by decide +kernel
theorem dX6_line_37 : decode cX6_line 37 = .ok (.getfield 107, 3) := by decide +kernel
theorem dX6_line_40 : decode cX6_line 40 = .ok (.iconst 1, 1) := by decide +kernel
theorem dX6_line_41 : decode cX6_line 41 = .ok (.iadd, 1) := by decide +kernel
theorem dX6_line_42 : decode cX6_line 42 = .ok (.putfield 107, 3) := by decide +kernel
theorem dX6_line_45 : decode cX6_line 45 = .ok (.aload_n 0, 1) := by decide +kernel
theorem dX6_line_46 : decode cX6_line 46 = .ok (.getfield 107, 3) := by decide +kernel
theorem dX6_line_49 : decode cX6_line 49 = .ok (.iconst 1, 1) := by decide +kernel
theorem dX6_line_50 : decode cX6_line 50 = .ok (.isub, 1) := by decide +kernel
theorem dX6_line_51 : decode cX6_line 51 = .ok (.ireturn, 1) := by decide +kernel
theorem dX6_begin_0 : decode cX6_begin 0 = .ok (.aload_n 0, 1) := by decide +kernel
theorem dX6_begin_1 : decode cX6_begin 1 = .ok (.getfield 25, 3) := by decide +kernel
theorem dX6_begin_4 : decode cX6_begin 4 = .ok (.iload_n 1, 1) := by decide +kernel
theorem dX6_begin_5 : decode cX6_begin 5 = .ok (.iload_n 2, 1) := by decide +kernel
theorem dX6_begin_6 : decode cX6_begin 6 = .ok (.iastore, 1) := by decide +kernel
theorem dX6_begin_7 : decode cX6_begin 7 = .ok (.aload_n 0, 1) := by decide +kernel
theorem dX6_begin_8 : decode cX6_begin 8 = .ok (.getfield 28, 3) := by decide +kernel
theorem dX6_begin_11 : decode cX6_begin 11 = .ok (.iload_n 1, 1) := by decide +kernel
theorem dX6_begin_12 : decode cX6_begin 12 = .ok (.iload_n 3, 1) := by decide +kernel
theorem dX6_begin_13 : decode cX6_begin 13 = .ok (.iastore, 1) := by decide +kernel
theorem dX6_begin_14 : decode cX6_begin 14 = .ok (.aload_n 0, 1) := by decide +kernel
theorem dX6_begin_15 : decode cX6_begin 15 = .ok (.getfield 31, 3) := by decide +kernel
theorem dX6_begin_18 : decode cX6_begin 18 = .ok (.iload_n 1, 1) := by decide +kernel
theorem dX6_begin_19 : decode cX6_begin 19 = .ok (.iconst 0, 1) := by decide +kernel
theorem dX6_begin_20 : decode cX6_begin 20 = .ok (.iastore, 1) := by decide +kernel
theorem dX6_begin_21 : decode cX6_begin 21 = .ok (.return_, 1) := by decide +kernel
theorem dX6_has_0 : decode cX6_has 0 = .ok (.iconst 0, 1) := by decide +kernel
theorem dX6_has_1 : decode cX6_has 1 = .ok (.istore_n 3, 1) := by decide +kernel
theorem dX6_has_2 : decode cX6_has 2 = .ok (.iload_n 3, 1) := by decide +kernel
theorem dX6_has_3 : decode cX6_has 3 = .ok (.aload_n 0, 1) := by decide +kernel
theorem dX6_has_4 : decode cX6_has 4 = .ok (.getfield 31, 3) := by decide +kernel
theorem dX6_has_7 : decode cX6_has 7 = .ok (.iload_n 1, 1) := by decide +kernel
theorem dX6_has_8 : decode cX6_has 8 = .ok (.iaload, 1) := by decide +kernel
theorem dX6_has_9 : decode cX6_has 9 = .ok (.if_icmp .ge 26, 3) := by decide +kernel
theorem dX6_has_12 : decode cX6_has 12 = .ok (.aload_n 0, 1) := by decide +kernel
theorem dX6_has_13 : decode cX6_has 13 = .ok (.getfield 34, 3) := by decide +kernel
theorem dX6_has_16 : decode cX6_has 16 = .ok (.bipush 16, 2) := by decide +kernel
theorem dX6_has_18 : decode cX6_has 18 = .ok (.iload_n 1, 1) := by decide +kernel
theorem dX6_has_19 : decode cX6_has 19 = .ok (.imul, 1) := by decide +kernel
theorem dX6_has_20 : decode cX6_has 20 = .ok (.iload_n 3, 1) := by decide +kernel
theorem dX6_has_21 : decode cX6_has 21 = .ok (.iadd, 1) := by decide +kernel
theorem dX6_has_22 : decode cX6_has 22 = .ok (.iaload, 1) := by decide +kernel
theorem dX6_has_23 : decode cX6_has 23 = .ok (.iload_n 2, 1) := by decide +kernel
theorem dX6_has_24 : decode cX6_has 24 = .ok (.if_icmp .ne 5, 3) := by decide +kernel
theorem dX6_has_27 : decode cX6_has 27 = .ok (.iconst 1, 1) := by decide +kernel
theorem dX6_has_28 : decode cX6_has 28 = .ok (.ireturn, 1) := by decide +kernel
theorem dX6_has_29 : decode cX6_has 29 = .ok (.iinc 3 1, 3) := by decide +kernel
theorem dX6_has_32 : decode cX6_has 32 = .ok (.goto (-30), 3) := by decide +kernel
theorem dX6_has_35 : decode cX6_has 35 = .ok (.iconst 0, 1) := by decide +kernel
theorem dX6_has_36 : decode cX6_has 36 = .ok (.ireturn, 1) := by decide +kernel
theorem dX6_literalOf_0 : decode cX6_literalOf 0 = .ok (.iconst 2, 1) := by decide +kernel
theorem dX6_literalOf_1 : decode cX6_literalOf 1 = .ok (.aload_n 0, 1) := by decide +kernel
theorem dX6_literalOf_2 : decode cX6_literalOf 2 = .ok (.getfield 60, 3) := by decide +kernel
theorem dX6_literalOf_5 : decode cX6_literalOf 5 = .ok (.iload_n 1, 1) := by decide +kernel
theorem dX6_literalOf_6 : decode cX6_literalOf 6 = .ok (.imul, 1) := by decide +kernel
theorem dX6_literalOf_7 : decode cX6_literalOf 7 = .ok (.iload_n 2, 1) := by decide +kernel
theorem dX6_literalOf_8 : decode cX6_literalOf 8 = .ok (.iadd, 1) := by decide +kernel
theorem dX6_literalOf_9 : decode cX6_literalOf 9 = .ok (.imul, 1) := by decide +kernel
theorem dX6_literalOf_10 : decode cX6_literalOf 10 = .ok (.iload_n 3, 1) := by decide +kernel
theorem dX6_literalOf_11 : decode cX6_literalOf 11 = .ok (.ifCond .eq 7, 3) := by decide +kernel
theorem dX6_literalOf_14 : decode cX6_literalOf 14 = .ok (.iconst 1, 1) := by decide +kernel
theorem dX6_literalOf_15 : decode cX6_literalOf 15 = .ok (.goto 4, 3) := by decide +kernel
theorem dX6_literalOf_18 : decode cX6_literalOf 18 = .ok (.iconst 0, 1) := by decide +kernel
theorem dX6_literalOf_19 : decode cX6_literalOf 19 = .ok (.iadd, 1) := by decide +kernel
theorem dX6_literalOf_20 : decode cX6_literalOf 20 = .ok (.ireturn, 1) := by decide +kernel
theorem dX6_add_0 : decode cX6_add 0 = .ok (.aload_n 0, 1) := by decide +kernel
theorem dX6_add_1 : decode cX6_add 1 = .ok (.getfield 34, 3) := by decide +kernel
theorem dX6_add_4 : decode cX6_add 4 = .ok (.bipush 16, 2) := by decide +kernel
theorem dX6_add_6 : decode cX6_add 6 = .ok (.iload_n 1, 1) := by decide +kernel
theorem dX6_add_7 : decode cX6_add 7 = .ok (.imul, 1) := by decide +kernel
theorem dX6_add_8 : decode cX6_add 8 = .ok (.aload_n 0, 1) := by decide +kernel
theorem dX6_add_9 : decode cX6_add 9 = .ok (.getfield 31, 3) := by decide +kernel
theorem dX6_add_12 : decode cX6_add 12 = .ok (.iload_n 1, 1) := by decide +kernel
theorem dX6_add_13 : decode cX6_add 13 = .ok (.iaload, 1) := by decide +kernel
theorem dX6_add_14 : decode cX6_add 14 = .ok (.iadd, 1) := by decide +kernel
theorem dX6_add_15 : decode cX6_add 15 = .ok (.iload_n 2, 1) := by decide +kernel
theorem dX6_add_16 : decode cX6_add 16 = .ok (.iastore, 1) := by decide +kernel
theorem dX6_add_17 : decode cX6_add 17 = .ok (.aload_n 0, 1) := by decide +kernel
theorem dX6_add_18 : decode cX6_add 18 = .ok (.getfield 31, 3) := by decide +kernel
theorem dX6_add_21 : decode cX6_add 21 = .ok (.iload_n 1, 1) := by decide +kernel
theorem dX6_add_22 : decode cX6_add 22 = .ok (.dup2, 1) := by decide +kernel
theorem dX6_add_23 : decode cX6_add 23 = .ok (.iaload, 1) := by decide +kernel
theorem dX6_add_24 : decode cX6_add 24 = .ok (.iconst 1, 1) := by decide +kernel
theorem dX6_add_25 : decode cX6_add 25 = .ok (.iadd, 1) := by decide +kernel
theorem dX6_add_26 : decode cX6_add 26 = .ok (.iastore, 1) := by decide +kernel
theorem dX6_add_27 : decode cX6_add 27 = .ok (.return_, 1) := by decide +kernel
set_option maxRecDepth 20000 in
theorem ggX6_literal_X6_isCell : GoodIn wsX6_literal wsX6_isCell := goodIn_r _ [7, 8, 9, 10, 6, 11, 12, 13, 37, 38, 39, 40, 41, 42, 43, 44, 45, 46, 47, 48, 49, 50, 51, 52, 53, 54, 55, 56, 57, 58, 59] (by decide +kernel) (by decide +kernel)
set_option maxRecDepth 20000 in
theorem gX6_literal_X6_isCell : GoodIn wsX6_literal (wsV RX6 76 RX6 yX6_isCell wsX6_isCell) := goodIn_app (goodIn_of _ (by decide +kernel)) ggX6_literal_X6_isCell
set_option maxRecDepth 20000 in
theorem ggX6_literal_X6_throwsIf : GoodIn wsX6_literal wsX6_throwsIf := goodIn_r _ [17, 18, 37, 38, 39, 40, 41, 42, 43, 44, 45, 46, 47, 48, 49, 50, 51, 52, 53, 54, 55, 56, 57, 58, 59] (by decide +kernel) (by decide +kernel)
set_option maxRecDepth 20000 in
theorem gX6_literal_X6_throwsIf : GoodIn wsX6_literal (wsV RX6 80 RX6 yX6_throwsIf wsX6_throwsIf) := goodIn_app (goodIn_of _ (by decide +kernel)) ggX6_literal_X6_throwsIf
set_option maxRecDepth 20000 in
theorem ggX6_literal_X6_isSymbol : GoodIn wsX6_literal wsX6_isSymbol := goodIn_r _ [22, 23, 37, 38, 39, 40, 41, 42, 43, 44, 45, 46, 47, 48, 49, 50, 51, 52, 53, 54, 55, 56, 57, 58, 59] (by decide +kernel) (by decide +kernel)
set_option maxRecDepth 20000 in
theorem gX6_literal_X6_isSymbol : GoodIn wsX6_literal (wsV RX6 87 RX6 yX6_isSymbol wsX6_isSymbol) := goodIn_app (goodIn_of _ (by decide +kernel)) ggX6_literal_X6_isSymbol
set_option maxRecDepth 20000 in
theorem ggX6_literal_X6_literalOf : GoodIn wsX6_literal wsX6_literalOf := goodIn_r _ [27, 23, 37, 38, 39, 40, 41, 42, 43, 44, 45, 46, 47, 48, 49, 50, 51, 52, 53, 54, 55, 56, 57, 58, 59] (by decide +kernel) (by decide +kernel)
set_option maxRecDepth 20000 in
theorem gX6_literal_X6_literalOf : GoodIn wsX6_literal (wsV RX6 114 RX6 yX6_literalOf wsX6_literalOf) := goodIn_app (goodIn_of _ (by decide +kernel)) ggX6_literal_X6_literalOf
set_option maxRecDepth 20000 in
theorem ggX6_literal_X6_has : GoodIn wsX6_literal wsX6_has := goodIn_r _ [31, 2, 32, 37, 38, 39, 40, 41, 42, 43, 44, 45, 46, 47, 48, 49, 50, 51, 52, 53, 54, 55, 56, 57, 58, 59] (by decide +kernel) (by decide +kernel)
set_option maxRecDepth 20000 in
theorem gX6_literal_X6_has : GoodIn wsX6_literal (wsV RX6 118 RX6 yX6_has wsX6_has) := goodIn_app (goodIn_of _ (by decide +kernel)) ggX6_literal_X6_has
set_option maxRecDepth 20000 in
theorem ggX6_literal_X6_add : GoodIn wsX6_literal wsX6_add := goodIn_r _ [36, 32, 2, 37, 38, 39, 40, 41, 42, 43, 44, 45, 46, 47, 48, 49, 50, 51, 52, 53, 54, 55, 56, 57, 58, 59] (by decide +kernel) (by decide +kernel)
set_option maxRecDepth 20000 in
theorem gX6_literal_X6_add : GoodIn wsX6_literal (wsV RX6 121 RX6 yX6_add wsX6_add) := goodIn_app (goodIn_of _ (by decide +kernel)) ggX6_literal_X6_add
theorem dX6_literal_0 : decode cX6_literal 0 = .ok (.aload_n 0, 1) := by decide +kernel
theorem dX6_literal_1 : decode cX6_literal 1 = .ok (.iconst 1, 1) := by decide +kernel
theorem dX6_literal_2 : decode cX6_literal 2 = .ok (.aload_n 0, 1) := by decide +kernel
theorem dX6_literal_3 : decode cX6_literal 3 = .ok (.iload_n 1, 1) := by decide +kernel
theorem dX6_literal_4 : decode cX6_literal 4 = .ok (.invokevirtual 76, 3) := by decide +kernel
theorem dX6_literal_7 : decode cX6_literal 7 = .ok (.ifCond .ne 7, 3) := by decide +kernel
theorem dX6_literal_10 : decode cX6_literal 10 = .ok (.iconst 1, 1) := by decide +kernel
theorem dX6_literal_11 : decode cX6_literal 11 = .ok (.goto 4, 3) := by decide +kernel
theorem dX6_literal_14 : decode cX6_literal 14 = .ok (.iconst 0, 1) := by decide +kernel
theorem dX6_literal_15 : decode cX6_literal 15 = .ok (.invokevirtual 80, 3) := by decide +kernel
theorem dX6_literal_18 : decode cX6_literal 18 = .ok (.ifCond .ne 31, 3) := by decide +kernel
theorem dX6_literal_21 : decode cX6_literal 21 = .ok (.aload_n 0, 1) := by decide +kernel
theorem dX6_literal_22 : decode cX6_literal 22 = .ok (.iconst 2, 1) := by decide +kernel
theorem dX6_literal_23 : decode cX6_literal 23 = .ok (.aload_n 0, 1) := by decide +kernel
theorem dX6_literal_24 : decode cX6_literal 24 = .ok (.iload_n 2, 1) := by decide +kernel
theorem dX6_literal_25 : decode cX6_literal 25 = .ok (.invokevirtual 87, 3) := by decide +kernel
theorem dX6_literal_28 : decode cX6_literal 28 = .ok (.ifCond .ne 7, 3) := by decide +kernel
theorem dX6_literal_31 : decode cX6_literal 31 = .ok (.iconst 1, 1) := by decide +kernel
theorem dX6_literal_32 : decode cX6_literal 32 = .ok (.goto 4, 3) := by decide +kernel
theorem dX6_literal_35 : decode cX6_literal 35 = .ok (.iconst 0, 1) := by decide +kernel
theorem dX6_literal_36 : decode cX6_literal 36 = .ok (.invokevirtual 80, 3) := by decide +kernel
theorem dX6_literal_39 : decode cX6_literal 39 = .ok (.ifCond .ne 10, 3) := by decide +kernel
theorem dX6_literal_42 : decode cX6_literal 42 = .ok (.aload_n 0, 1) := by decide +kernel
theorem dX6_literal_43 : decode cX6_literal 43 = .ok (.getfield 107, 3) := by decide +kernel
theorem dX6_literal_46 : decode cX6_literal 46 = .ok (.ifCond .ne 5, 3) := by decide +kernel
theorem dX6_literal_49 : decode cX6_literal 49 = .ok (.iconst 0, 1) := by decide +kernel
theorem dX6_literal_50 : decode cX6_literal 50 = .ok (.ireturn, 1) := by decide +kernel
theorem dX6_literal_51 : decode cX6_literal 51 = .ok (.aload_n 0, 1) := by decide +kernel
theorem dX6_literal_52 : decode cX6_literal 52 = .ok (.aload_n 0, 1) := by decide +kernel
theorem dX6_literal_53 : decode cX6_literal 53 = .ok (.getfield 107, 3) := by decide +kernel
theorem dX6_literal_56 : decode cX6_literal 56 = .ok (.iconst 1, 1) := by decide +kernel
theorem dX6_literal_57 : decode cX6_literal 57 = .ok (.isub, 1) := by decide +kernel
theorem dX6_literal_58 : decode cX6_literal 58 = .ok (.aload_n 0, 1) := by decide +kernel
theorem dX6_literal_59 : decode cX6_literal 59 = .ok (.iload_n 1, 1) := by decide +kernel
theorem dX6_literal_60 : decode cX6_literal 60 = .ok (.iload_n 2, 1) := by decide +kernel
theorem dX6_literal_61 : decode cX6_literal 61 = .ok (.iload_n 3, 1) := by decide +kernel
theorem dX6_literal_62 : decode cX6_literal 62 = .ok (.invokevirtual 114, 3) := by decide +kernel
theorem dX6_literal_65 : decode cX6_literal 65 = .ok (.invokevirtual 118, 3) := by decide +kernel
theorem dX6_literal_68 : decode cX6_literal 68 = .ok (.ifCond .ne 19, 3) := by decide +kernel
theorem dX6_literal_71 : decode cX6_literal 71 = .ok (.aload_n 0, 1) := by decide +kernel
theorem dX6_literal_72 : decode cX6_literal 72 = .ok (.getfield 31, 3) := by decide +kernel
theorem dX6_literal_75 : decode cX6_literal 75 = .ok (.aload_n 0, 1) := by decide +kernel
theorem dX6_literal_76 : decode cX6_literal 76 = .ok (.getfield 107, 3) := by decide +kernel
theorem dX6_literal_79 : decode cX6_literal 79 = .ok (.iconst 1, 1) := by decide +kernel
theorem dX6_literal_80 : decode cX6_literal 80 = .ok (.isub, 1) := by decide +kernel
theorem dX6_literal_81 : decode cX6_literal 81 = .ok (.iaload, 1) := by decide +kernel
theorem dX6_literal_82 : decode cX6_literal 82 = .ok (.bipush 16, 2) := by decide +kernel
theorem dX6_literal_84 : decode cX6_literal 84 = .ok (.if_icmp .ne 5, 3) := by decide +kernel
theorem dX6_literal_87 : decode cX6_literal 87 = .ok (.iconst 0, 1) := by decide +kernel
theorem dX6_literal_88 : decode cX6_literal 88 = .ok (.ireturn, 1) := by decide +kernel
theorem dX6_literal_89 : decode cX6_literal 89 = .ok (.aload_n 0, 1) := by decide +kernel
theorem dX6_literal_90 : decode cX6_literal 90 = .ok (.aload_n 0, 1) := by decide +kernel
theorem dX6_literal_91 : decode cX6_literal 91 = .ok (.getfield 107, 3) := by decide +kernel
theorem dX6_literal_94 : decode cX6_literal 94 = .ok (.iconst 1, 1) := by decide +kernel
theorem dX6_literal_95 : decode cX6_literal 95 = .ok (.isub, 1) := by decide +kernel
theorem dX6_literal_96 : decode cX6_literal 96 = .ok (.aload_n 0, 1) := by decide +kernel
theorem dX6_literal_97 : decode cX6_literal 97 = .ok (.iload_n 1, 1) := by decide +kernel
theorem dX6_literal_98 : decode cX6_literal 98 = .ok (.iload_n 2, 1) := by decide +kernel
theorem dX6_literal_99 : decode cX6_literal 99 = .ok (.iload_n 3, 1) := by decide +kernel
theorem dX6_literal_100 : decode cX6_literal 100 = .ok (.invokevirtual 114, 3) := by decide +kernel
theorem dX6_literal_103 : decode cX6_literal 103 = .ok (.invokevirtual 121, 3) := by decide +kernel
theorem dX6_literal_106 : decode cX6_literal 106 = .ok (.iconst 1, 1) := by decide +kernel
theorem dX6_literal_107 : decode cX6_literal 107 = .ok (.ireturn, 1) := by decide +kernel
theorem dX6_drop_0 : decode cX6_drop 0 = .ok (.aload_n 0, 1) := by decide +kernel
theorem dX6_drop_1 : decode cX6_drop 1 = .ok (.iconst 0, 1) := by decide +kernel
theorem dX6_drop_2 : decode cX6_drop 2 = .ok (.putfield 63, 3) := by decide +kernel
theorem dX6_drop_5 : decode cX6_drop 5 = .ok (.aload_n 0, 1) := by decide +kernel
theorem dX6_drop_6 : decode cX6_drop 6 = .ok (.getfield 107, 3) := by decide +kernel
theorem dX6_drop_9 : decode cX6_drop 9 = .ok (.ifCond .ne 5, 3) := by decide +kernel
theorem dX6_drop_12 : decode cX6_drop 12 = .ok (.iconst 0, 1) := by decide +kernel
theorem dX6_drop_13 : decode cX6_drop 13 = .ok (.ireturn, 1) := by decide +kernel
theorem dX6_drop_14 : decode cX6_drop 14 = .ok (.aload_n 0, 1) := by decide +kernel
theorem dX6_drop_15 : decode cX6_drop 15 = .ok (.dup, 1) := by decide +kernel
theorem dX6_drop_16 : decode cX6_drop 16 = .ok (.getfield 107, 3) := by decide +kernel
theorem dX6_drop_19 : decode cX6_drop 19 = .ok (.iconst 1, 1) := by decide +kernel
theorem dX6_drop_20 : decode cX6_drop 20 = .ok (.isub, 1) := by decide +kernel
theorem dX6_drop_21 : decode cX6_drop 21 = .ok (.putfield 107, 3) := by decide +kernel
theorem dX6_drop_24 : decode cX6_drop 24 = .ok (.iconst 1, 1) := by decide +kernel
theorem dX6_drop_25 : decode cX6_drop 25 = .ok (.ireturn, 1) := by decide +kernel
theorem dX6_cellOf_0 : decode cX6_cellOf 0 = .ok (.iload_n 1, 1) := by decide +kernel
theorem dX6_cellOf_1 : decode cX6_cellOf 1 = .ok (.iconst 2, 1) := by decide +kernel
theorem dX6_cellOf_2 : decode cX6_cellOf 2 = .ok (.idiv, 1) := by decide +kernel
theorem dX6_cellOf_3 : decode cX6_cellOf 3 = .ok (.aload_n 0, 1) := by decide +kernel
theorem dX6_cellOf_4 : decode cX6_cellOf 4 = .ok (.getfield 60, 3) := by decide +kernel
theorem dX6_cellOf_7 : decode cX6_cellOf 7 = .ok (.idiv, 1) := by decide +kernel
theorem dX6_cellOf_8 : decode cX6_cellOf 8 = .ok (.ireturn, 1) := by decide +kernel
theorem dX6_symbolOf_0 : decode cX6_symbolOf 0 = .ok (.iload_n 1, 1) := by decide +kernel
theorem dX6_symbolOf_1 : decode cX6_symbolOf 1 = .ok (.iconst 2, 1) := by decide +kernel
theorem dX6_symbolOf_2 : decode cX6_symbolOf 2 = .ok (.idiv, 1) := by decide +kernel
theorem dX6_symbolOf_3 : decode cX6_symbolOf 3 = .ok (.aload_n 0, 1) := by decide +kernel
theorem dX6_symbolOf_4 : decode cX6_symbolOf 4 = .ok (.getfield 60, 3) := by decide +kernel
theorem dX6_symbolOf_7 : decode cX6_symbolOf 7 = .ok (.irem, 1) := by decide +kernel
theorem dX6_symbolOf_8 : decode cX6_symbolOf 8 = .ok (.ireturn, 1) := by decide +kernel
set_option maxRecDepth 20000 in
theorem ggX6_isFilled_X6_cellOf : GoodIn wsX6_isFilled wsX6_cellOf := goodIn_r _ [6, 7, 22, 23, 24, 25, 26, 27, 28, 29, 30, 31, 32, 33, 34, 35, 36, 37, 38, 39, 40, 41, 42, 43, 44] (by decide +kernel) (by decide +kernel)
set_option maxRecDepth 20000 in
theorem gX6_isFilled_X6_cellOf : GoodIn wsX6_isFilled (wsV RX6 125 RX6 yX6_cellOf wsX6_cellOf) := goodIn_app (goodIn_of _ (by decide +kernel)) ggX6_isFilled_X6_cellOf
set_option maxRecDepth 20000 in
theorem ggX6_isFilled_X6_seat : GoodIn wsX6_isFilled wsX6_seat := goodIn_r _ [11, 12, 13, 14, 15, 5, 16, 17, 22, 23, 24, 25, 26, 27, 28, 29, 30, 31, 32, 33, 34, 35, 36, 37, 38, 39, 40, 41, 42, 43, 44] (by decide +kernel) (by decide +kernel)
set_option maxRecDepth 20000 in
theorem gX6_isFilled_X6_seat : GoodIn wsX6_isFilled (wsV RX6 84 RX6 yX6_seat wsX6_seat) := goodIn_app (goodIn_of _ (by decide +kernel)) ggX6_isFilled_X6_seat
set_option maxRecDepth 20000 in
theorem ggX6_isFilled_X6_symbolOf : GoodIn wsX6_isFilled wsX6_symbolOf := goodIn_r _ [21, 7, 22, 23, 24, 25, 26, 27, 28, 29, 30, 31, 32, 33, 34, 35, 36, 37, 38, 39, 40, 41, 42, 43, 44] (by decide +kernel) (by decide +kernel)
set_option maxRecDepth 20000 in
theorem gX6_isFilled_X6_symbolOf : GoodIn wsX6_isFilled (wsV RX6 128 RX6 yX6_symbolOf wsX6_symbolOf) := goodIn_app (goodIn_of _ (by decide +kernel)) ggX6_isFilled_X6_symbolOf
theorem dX6_isFilled_0 : decode cX6_isFilled 0 = .ok (.aload_n 0, 1) := by decide +kernel
theorem dX6_isFilled_1 : decode cX6_isFilled 1 = .ok (.iload_n 1, 1) := by decide +kernel
theorem dX6_isFilled_2 : decode cX6_isFilled 2 = .ok (.aload_n 0, 1) := by decide +kernel
theorem dX6_isFilled_3 : decode cX6_isFilled 3 = .ok (.iload_n 2, 1) := by decide +kernel
theorem dX6_isFilled_4 : decode cX6_isFilled 4 = .ok (.invokevirtual 125, 3) := by decide +kernel
theorem dX6_isFilled_7 : decode cX6_isFilled 7 = .ok (.invokevirtual 84, 3) := by decide +kernel
theorem dX6_isFilled_10 : decode cX6_isFilled 10 = .ok (.istore_n 3, 1) := by decide +kernel
theorem dX6_isFilled_11 : decode cX6_isFilled 11 = .ok (.iload_n 3, 1) := by decide +kernel
theorem dX6_isFilled_12 : decode cX6_isFilled 12 = .ok (.ifCond .lt 41, 3) := by decide +kernel
theorem dX6_isFilled_15 : decode cX6_isFilled 15 = .ok (.aload_n 0, 1) := by decide +kernel
theorem dX6_isFilled_16 : decode cX6_isFilled 16 = .ok (.getfield 43, 3) := by decide +kernel
theorem dX6_isFilled_19 : decode cX6_isFilled 19 = .ok (.iload_n 3, 1) := by decide +kernel
theorem dX6_isFilled_20 : decode cX6_isFilled 20 = .ok (.iaload, 1) := by decide +kernel
theorem dX6_isFilled_21 : decode cX6_isFilled 21 = .ok (.aload_n 0, 1) := by decide +kernel
theorem dX6_isFilled_22 : decode cX6_isFilled 22 = .ok (.iload_n 2, 1) := by decide +kernel
theorem dX6_isFilled_23 : decode cX6_isFilled 23 = .ok (.invokevirtual 128, 3) := by decide +kernel
theorem dX6_isFilled_26 : decode cX6_isFilled 26 = .ok (.if_icmp .ne 7, 3) := by decide +kernel
theorem dX6_isFilled_29 : decode cX6_isFilled 29 = .ok (.iconst 1, 1) := by decide +kernel
theorem dX6_isFilled_30 : decode cX6_isFilled 30 = .ok (.goto 4, 3) := by decide +kernel
theorem dX6_isFilled_33 : decode cX6_isFilled 33 = .ok (.iconst 0, 1) := by decide +kernel
theorem dX6_isFilled_34 : decode cX6_isFilled 34 = .ok (.iload_n 2, 1) := by decide +kernel
theorem dX6_isFilled_35 : decode cX6_isFilled 35 = .ok (.iconst 2, 1) := by decide +kernel
theorem dX6_isFilled_36 : decode cX6_isFilled 36 = .ok (.irem, 1) := by decide +kernel
theorem dX6_isFilled_37 : decode cX6_isFilled 37 = .ok (.iconst 1, 1) := by decide +kernel
theorem dX6_isFilled_38 : decode cX6_isFilled 38 = .ok (.if_icmp .ne 7, 3) := by decide +kernel
theorem dX6_isFilled_41 : decode cX6_isFilled 41 = .ok (.iconst 1, 1) := by decide +kernel
theorem dX6_isFilled_42 : decode cX6_isFilled 42 = .ok (.goto 4, 3) := by decide +kernel
theorem dX6_isFilled_45 : decode cX6_isFilled 45 = .ok (.iconst 0, 1) := by decide +kernel
theorem dX6_isFilled_46 : decode cX6_isFilled 46 = .ok (.if_icmp .ne 7, 3) := by decide +kernel
theorem dX6_isFilled_49 : decode cX6_isFilled 49 = .ok (.iconst 1, 1) := by decide +kernel
theorem dX6_isFilled_50 : decode cX6_isFilled 50 = .ok (.goto 4, 3) := by decide +kernel
theorem dX6_isFilled_53 : decode cX6_isFilled 53 = .ok (.iconst 0, 1) := by decide +kernel
theorem dX6_isFilled_54 : decode cX6_isFilled 54 = .ok (.ireturn, 1) := by decide +kernel
set_option maxRecDepth 20000 in
theorem ggX6_byRule_X6_meets : GoodIn wsX6_byRule wsX6_meets := goodIn_r _ [12, 3, 5, 13, 14, 15, 16, 17, 11, 18, 19, 20, 21, 22, 23, 24, 25, 26, 27, 28, 45, 46, 47, 48, 49, 50, 51, 52, 53, 54, 55, 56, 57, 58, 59, 60, 61, 62, 63, 64, 65, 66, 67] (by decide +kernel) (by decide +kernel)
set_option maxRecDepth 20000 in
theorem gX6_byRule_X6_meets : GoodIn wsX6_byRule (wsV RX6 97 RX6 yX6_meets wsX6_meets) := goodIn_app (goodIn_of _ (by decide +kernel)) ggX6_byRule_X6_meets
set_option maxRecDepth 20000 in
theorem ggX6_byRule_X6_isFilled : GoodIn wsX6_byRule wsX6_isFilled := goodIn_r _ [32, 5, 33, 34, 35, 11, 36, 4, 37, 38, 39, 40, 3, 19, 20, 21, 22, 23, 41, 42, 43, 44, 45, 46, 47, 48, 49, 50, 51, 52, 53, 54, 55, 56, 57, 58, 59, 60, 61, 62, 63, 64, 65, 66, 67] (by decide +kernel) (by decide +kernel)
set_option maxRecDepth 20000 in
theorem gX6_byRule_X6_isFilled : GoodIn wsX6_byRule (wsV RX6 131 RX6 yX6_isFilled wsX6_isFilled) := goodIn_app (goodIn_of _ (by decide +kernel)) ggX6_byRule_X6_isFilled
theorem dX6_byRule_0 : decode cX6_byRule 0 = .ok (.aload_n 0, 1) := by decide +kernel
theorem dX6_byRule_1 : decode cX6_byRule 1 = .ok (.getfield 28, 3) := by decide +kernel
theorem dX6_byRule_4 : decode cX6_byRule 4 = .ok (.iload_n 1, 1) := by decide +kernel
theorem dX6_byRule_5 : decode cX6_byRule 5 = .ok (.iaload, 1) := by decide +kernel
theorem dX6_byRule_6 : decode cX6_byRule 6 = .ok (.istore_n 2, 1) := by decide +kernel
theorem dX6_byRule_7 : decode cX6_byRule 7 = .ok (.iload_n 2, 1) := by decide +kernel
theorem dX6_byRule_8 : decode cX6_byRule 8 = .ok (.ifCond .lt 11, 3) := by decide +kernel
theorem dX6_byRule_11 : decode cX6_byRule 11 = .ok (.iload_n 2, 1) := by decide +kernel
theorem dX6_byRule_12 : decode cX6_byRule 12 = .ok (.aload_n 0, 1) := by decide +kernel
theorem dX6_byRule_13 : decode cX6_byRule 13 = .ok (.getfield 70, 3) := by decide +kernel
theorem dX6_byRule_16 : decode cX6_byRule 16 = .ok (.if_icmp .lt 5, 3) := by decide +kernel
theorem dX6_byRule_19 : decode cX6_byRule 19 = .ok (.iconst 0, 1) := by decide +kernel
theorem dX6_byRule_20 : decode cX6_byRule 20 = .ok (.ireturn, 1) := by decide +kernel
theorem dX6_byRule_21 : decode cX6_byRule 21 = .ok (.iconst 1, 1) := by decide +kernel
theorem dX6_byRule_22 : decode cX6_byRule 22 = .ok (.istore_n 3, 1) := by decide +kernel
theorem dX6_byRule_23 : decode cX6_byRule 23 = .ok (.iconst 0, 1) := by decide +kernel
theorem dX6_byRule_24 : decode cX6_byRule 24 = .ok (.istore 4, 2) := by decide +kernel
theorem dX6_byRule_26 : decode cX6_byRule 26 = .ok (.iload 4, 2) := by decide +kernel
theorem dX6_byRule_28 : decode cX6_byRule 28 = .ok (.aload_n 0, 1) := by decide +kernel
theorem dX6_byRule_29 : decode cX6_byRule 29 = .ok (.getfield 16, 3) := by decide +kernel
theorem dX6_byRule_32 : decode cX6_byRule 32 = .ok (.iload_n 2, 1) := by decide +kernel
theorem dX6_byRule_33 : decode cX6_byRule 33 = .ok (.iaload, 1) := by decide +kernel
theorem dX6_byRule_34 : decode cX6_byRule 34 = .ok (.if_icmp .ge 27, 3) := by decide +kernel
theorem dX6_byRule_37 : decode cX6_byRule 37 = .ok (.iload_n 3, 1) := by decide +kernel
theorem dX6_byRule_38 : decode cX6_byRule 38 = .ok (.sipush 4096, 3) := by decide +kernel
theorem dX6_byRule_41 : decode cX6_byRule 41 = .ok (.if_icmp .le 7, 3) := by decide +kernel
theorem dX6_byRule_44 : decode cX6_byRule 44 = .ok (.iload_n 3, 1) := by decide +kernel
theorem dX6_byRule_45 : decode cX6_byRule 45 = .ok (.goto 9, 3) := by decide +kernel
theorem dX6_byRule_48 : decode cX6_byRule 48 = .ok (.iload_n 3, 1) := by decide +kernel
theorem dX6_byRule_49 : decode cX6_byRule 49 = .ok (.aload_n 0, 1) := by decide +kernel
theorem dX6_byRule_50 : decode cX6_byRule 50 = .ok (.getfield 60, 3) := by decide +kernel
theorem dX6_byRule_53 : decode cX6_byRule 53 = .ok (.imul, 1) := by decide +kernel
theorem dX6_byRule_54 : decode cX6_byRule 54 = .ok (.istore_n 3, 1) := by decide +kernel
theorem dX6_byRule_55 : decode cX6_byRule 55 = .ok (.iinc 4 1, 3) := by decide +kernel
theorem dX6_byRule_58 : decode cX6_byRule 58 = .ok (.goto (-32), 3) := by decide +kernel
theorem dX6_byRule_61 : decode cX6_byRule 61 = .ok (.iload_n 3, 1) := by decide +kernel
theorem dX6_byRule_62 : decode cX6_byRule 62 = .ok (.sipush 4096, 3) := by decide +kernel
theorem dX6_byRule_65 : decode cX6_byRule 65 = .ok (.if_icmp .le 5, 3) := by decide +kernel
theorem dX6_byRule_68 : decode cX6_byRule 68 = .ok (.iconst 0, 1) := by decide +kernel
theorem dX6_byRule_69 : decode cX6_byRule 69 = .ok (.ireturn, 1) := by decide +kernel
theorem dX6_byRule_70 : decode cX6_byRule 70 = .ok (.iconst 0, 1) := by decide +kernel
theorem dX6_byRule_71 : decode cX6_byRule 71 = .ok (.istore 4, 2) := by decide +kernel
theorem dX6_byRule_73 : decode cX6_byRule 73 = .ok (.iload 4, 2) := by decide +kernel
theorem dX6_byRule_75 : decode cX6_byRule 75 = .ok (.iload_n 3, 1) := by decide +kernel
theorem dX6_byRule_76 : decode cX6_byRule 76 = .ok (.if_icmp .ge 130, 3) := by decide +kernel
theorem dX6_byRule_79 : decode cX6_byRule 79 = .ok (.iload 4, 2) := by decide +kernel
theorem dX6_byRule_81 : decode cX6_byRule 81 = .ok (.istore 5, 2) := by decide +kernel
theorem dX6_byRule_83 : decode cX6_byRule 83 = .ok (.iconst 0, 1) := by decide +kernel
theorem dX6_byRule_84 : decode cX6_byRule 84 = .ok (.istore 6, 2) := by decide +kernel
theorem dX6_byRule_86 : decode cX6_byRule 86 = .ok (.iload 6, 2) := by decide +kernel
theorem dX6_byRule_88 : decode cX6_byRule 88 = .ok (.aload_n 0, 1) := by decide +kernel
theorem dX6_byRule_89 : decode cX6_byRule 89 = .ok (.getfield 16, 3) := by decide +kernel
theorem dX6_byRule_92 : decode cX6_byRule 92 = .ok (.iload_n 2, 1) := by decide +kernel
theorem dX6_byRule_93 : decode cX6_byRule 93 = .ok (.iaload, 1) := by decide +kernel
theorem dX6_byRule_94 : decode cX6_byRule 94 = .ok (.if_icmp .ge 32, 3) := by decide +kernel
theorem dX6_byRule_97 : decode cX6_byRule 97 = .ok (.aload_n 0, 1) := by decide +kernel
theorem dX6_byRule_98 : decode cX6_byRule 98 = .ok (.getfield 43, 3) := by decide +kernel
theorem dX6_byRule_101 : decode cX6_byRule 101 = .ok (.iload 6, 2) := by decide +kernel
theorem dX6_byRule_103 : decode cX6_byRule 103 = .ok (.iload 5, 2) := by decide +kernel
theorem dX6_byRule_105 : decode cX6_byRule 105 = .ok (.aload_n 0, 1) := by decide +kernel
theorem dX6_byRule_106 : decode cX6_byRule 106 = .ok (.getfield 60, 3) := by decide +kernel
theorem dX6_byRule_109 : decode cX6_byRule 109 = .ok (.irem, 1) := by decide +kernel
theorem dX6_byRule_110 : decode cX6_byRule 110 = .ok (.iastore, 1) := by decide +kernel
theorem dX6_byRule_111 : decode cX6_byRule 111 = .ok (.iload 5, 2) := by decide +kernel
theorem dX6_byRule_113 : decode cX6_byRule 113 = .ok (.aload_n 0, 1) := by decide +kernel
theorem dX6_byRule_114 : decode cX6_byRule 114 = .ok (.getfield 60, 3) := by decide +kernel
theorem dX6_byRule_117 : decode cX6_byRule 117 = .ok (.idiv, 1) := by decide +kernel
theorem dX6_byRule_118 : decode cX6_byRule 118 = .ok (.istore 5, 2) := by decide +kernel
theorem dX6_byRule_120 : decode cX6_byRule 120 = .ok (.iinc 6 1, 3) := by decide +kernel
theorem dX6_byRule_123 : decode cX6_byRule 123 = .ok (.goto (-37), 3) := by decide +kernel
theorem dX6_byRule_126 : decode cX6_byRule 126 = .ok (.aload_n 0, 1) := by decide +kernel
theorem dX6_byRule_127 : decode cX6_byRule 127 = .ok (.iload_n 2, 1) := by decide +kernel
theorem dX6_byRule_128 : decode cX6_byRule 128 = .ok (.invokevirtual 97, 3) := by decide +kernel
theorem dX6_byRule_131 : decode cX6_byRule 131 = .ok (.ifCond .ne 7, 3) := by decide +kernel
theorem dX6_byRule_134 : decode cX6_byRule 134 = .ok (.iconst 1, 1) := by decide +kernel
theorem dX6_byRule_135 : decode cX6_byRule 135 = .ok (.goto 4, 3) := by decide +kernel
theorem dX6_byRule_138 : decode cX6_byRule 138 = .ok (.iconst 0, 1) := by decide +kernel
theorem dX6_byRule_139 : decode cX6_byRule 139 = .ok (.istore 6, 2) := by decide +kernel
theorem dX6_byRule_141 : decode cX6_byRule 141 = .ok (.iconst 0, 1) := by decide +kernel
theorem dX6_byRule_142 : decode cX6_byRule 142 = .ok (.istore 7, 2) := by decide +kernel
theorem dX6_byRule_144 : decode cX6_byRule 144 = .ok (.iload 7, 2) := by decide +kernel
theorem dX6_byRule_146 : decode cX6_byRule 146 = .ok (.aload_n 0, 1) := by decide +kernel
theorem dX6_byRule_147 : decode cX6_byRule 147 = .ok (.getfield 31, 3) := by decide +kernel
theorem dX6_byRule_150 : decode cX6_byRule 150 = .ok (.iload_n 1, 1) := by decide +kernel
theorem dX6_byRule_151 : decode cX6_byRule 151 = .ok (.iaload, 1) := by decide +kernel
theorem dX6_byRule_152 : decode cX6_byRule 152 = .ok (.if_icmp .ge 41, 3) := by decide +kernel
theorem dX6_byRule_155 : decode cX6_byRule 155 = .ok (.iload 6, 2) := by decide +kernel
theorem dX6_byRule_157 : decode cX6_byRule 157 = .ok (.ifCond .ne 23, 3) := by decide +kernel
theorem dX6_byRule_160 : decode cX6_byRule 160 = .ok (.aload_n 0, 1) := by decide +kernel
theorem dX6_byRule_161 : decode cX6_byRule 161 = .ok (.iload_n 2, 1) := by decide +kernel
theorem dX6_byRule_162 : decode cX6_byRule 162 = .ok (.aload_n 0, 1) := by decide +kernel
theorem dX6_byRule_163 : decode cX6_byRule 163 = .ok (.getfield 34, 3) := by decide +kernel
theorem dX6_byRule_166 : decode cX6_byRule 166 = .ok (.bipush 16, 2) := by decide +kernel
theorem dX6_byRule_168 : decode cX6_byRule 168 = .ok (.iload_n 1, 1) := by decide +kernel
theorem dX6_byRule_169 : decode cX6_byRule 169 = .ok (.imul, 1) := by decide +kernel
theorem dX6_byRule_170 : decode cX6_byRule 170 = .ok (.iload 7, 2) := by decide +kernel
theorem dX6_byRule_172 : decode cX6_byRule 172 = .ok (.iadd, 1) := by decide +kernel
theorem dX6_byRule_173 : decode cX6_byRule 173 = .ok (.iaload, 1) := by decide +kernel
theorem dX6_byRule_174 : decode cX6_byRule 174 = .ok (.invokevirtual 131, 3) := by decide +kernel
theorem dX6_byRule_177 : decode cX6_byRule 177 = .ok (.ifCond .eq 7, 3) := by decide +kernel
theorem dX6_byRule_180 : decode cX6_byRule 180 = .ok (.iconst 1, 1) := by decide +kernel
theorem dX6_byRule_181 : decode cX6_byRule 181 = .ok (.goto 4, 3) := by decide +kernel
theorem dX6_byRule_184 : decode cX6_byRule 184 = .ok (.iconst 0, 1) := by decide +kernel
theorem dX6_byRule_185 : decode cX6_byRule 185 = .ok (.istore 6, 2) := by decide +kernel
theorem dX6_byRule_187 : decode cX6_byRule 187 = .ok (.iinc 7 1, 3) := by decide +kernel
theorem dX6_byRule_190 : decode cX6_byRule 190 = .ok (.goto (-46), 3) := by decide +kernel
theorem dX6_byRule_193 : decode cX6_byRule 193 = .ok (.iload 6, 2) := by decide +kernel
theorem dX6_byRule_195 : decode cX6_byRule 195 = .ok (.ifCond .ne 5, 3) := by decide +kernel
theorem dX6_byRule_198 : decode cX6_byRule 198 = .ok (.iconst 0, 1) := by decide +kernel
theorem dX6_byRule_199 : decode cX6_byRule 199 = .ok (.ireturn, 1) := by decide +kernel
theorem dX6_byRule_200 : decode cX6_byRule 200 = .ok (.iinc 4 1, 3) := by decide +kernel
theorem dX6_byRule_203 : decode cX6_byRule 203 = .ok (.goto (-130), 3) := by decide +kernel
theorem dX6_byRule_206 : decode cX6_byRule 206 = .ok (.iconst 1, 1) := by decide +kernel
theorem dX6_byRule_207 : decode cX6_byRule 207 = .ok (.ireturn, 1) := by decide +kernel
theorem dX6_all_0 : decode cX6_all 0 = .ok (.aload_n 0, 1) := by decide +kernel
theorem dX6_all_1 : decode cX6_all 1 = .ok (.iconst 0, 1) := by decide +kernel
theorem dX6_all_2 : decode cX6_all 2 = .ok (.putfield 134, 3) := by decide +kernel
theorem dX6_all_5 : decode cX6_all 5 = .ok (.iconst 0, 1) := by decide +kernel
theorem dX6_all_6 : decode cX6_all 6 = .ok (.istore_n 1, 1) := by decide +kernel
theorem dX6_all_7 : decode cX6_all 7 = .ok (.iload_n 1, 1) := by decide +kernel
theorem dX6_all_8 : decode cX6_all 8 = .ok (.bipush 16, 2) := by decide +kernel
theorem dX6_all_10 : decode cX6_all 10 = .ok (.if_icmp .ge 23, 3) := by decide +kernel
theorem dX6_all_13 : decode cX6_all 13 = .ok (.aload_n 0, 1) := by decide +kernel
theorem dX6_all_14 : decode cX6_all 14 = .ok (.getfield 37, 3) := by decide +kernel
theorem dX6_all_17 : decode cX6_all 17 = .ok (.iload_n 1, 1) := by decide +kernel
theorem dX6_all_18 : decode cX6_all 18 = .ok (.iconst 1, 1) := by decide +kernel
theorem dX6_all_19 : decode cX6_all 19 = .ok (.aload_n 0, 1) := by decide +kernel
theorem dX6_all_20 : decode cX6_all 20 = .ok (.getfield 60, 3) := by decide +kernel
theorem dX6_all_23 : decode cX6_all 23 = .ok (.ishl, 1) := by decide +kernel
theorem dX6_all_24 : decode cX6_all 24 = .ok (.iconst 1, 1) := by decide +kernel
theorem dX6_all_25 : decode cX6_all 25 = .ok (.isub, 1) := by decide +kernel
theorem dX6_all_26 : decode cX6_all 26 = .ok (.iastore, 1) := by decide +kernel
theorem dX6_all_27 : decode cX6_all 27 = .ok (.iinc 1 1, 3) := by decide +kernel
theorem dX6_all_30 : decode cX6_all 30 = .ok (.goto (-23), 3) := by decide +kernel
theorem dX6_all_33 : decode cX6_all 33 = .ok (.return_, 1) := by decide +kernel
set_option maxRecDepth 20000 in
theorem ggX6_make_X6_cellOf : GoodIn wsX6_make wsX6_cellOf := goodIn_r _ [7, 8, 13, 14, 15, 16, 17, 18, 19, 20, 21, 22, 23, 24, 25, 26, 27, 28, 29, 30, 31, 32, 33, 34, 35] (by decide +kernel) (by decide +kernel)
set_option maxRecDepth 20000 in
theorem gX6_make_X6_cellOf : GoodIn wsX6_make (wsV RX6 125 RX6 yX6_cellOf wsX6_cellOf) := goodIn_app (goodIn_of _ (by decide +kernel)) ggX6_make_X6_cellOf
set_option maxRecDepth 20000 in
theorem ggX6_make_X6_symbolOf : GoodIn wsX6_make wsX6_symbolOf := goodIn_r _ [12, 8, 13, 14, 15, 16, 17, 18, 19, 20, 21, 22, 23, 24, 25, 26, 27, 28, 29, 30, 31, 32, 33, 34, 35] (by decide +kernel) (by decide +kernel)
set_option maxRecDepth 20000 in
theorem gX6_make_X6_symbolOf : GoodIn wsX6_make (wsV RX6 128 RX6 yX6_symbolOf wsX6_symbolOf) := goodIn_app (goodIn_of _ (by decide +kernel)) ggX6_make_X6_symbolOf
theorem dX6_make_0 : decode cX6_make 0 = .ok (.aload_n 0, 1) := by decide +kernel
theorem dX6_make_1 : decode cX6_make 1 = .ok (.iload_n 1, 1) := by decide +kernel
theorem dX6_make_2 : decode cX6_make 2 = .ok (.invokevirtual 125, 3) := by decide +kernel
theorem dX6_make_5 : decode cX6_make 5 = .ok (.istore_n 2, 1) := by decide +kernel
theorem dX6_make_6 : decode cX6_make 6 = .ok (.iconst 1, 1) := by decide +kernel
theorem dX6_make_7 : decode cX6_make 7 = .ok (.aload_n 0, 1) := by decide +kernel
theorem dX6_make_8 : decode cX6_make 8 = .ok (.iload_n 1, 1) := by decide +kernel
theorem dX6_make_9 : decode cX6_make 9 = .ok (.invokevirtual 128, 3) := by decide +kernel
theorem dX6_make_12 : decode cX6_make 12 = .ok (.ishl, 1) := by decide +kernel
theorem dX6_make_13 : decode cX6_make 13 = .ok (.istore_n 3, 1) := by decide +kernel
theorem dX6_make_14 : decode cX6_make 14 = .ok (.aload_n 0, 1) := by decide +kernel
theorem dX6_make_15 : decode cX6_make 15 = .ok (.getfield 37, 3) := by decide +kernel
theorem dX6_make_18 : decode cX6_make 18 = .ok (.iload_n 2, 1) := by decide +kernel
theorem dX6_make_19 : decode cX6_make 19 = .ok (.iload_n 1, 1) := by decide +kernel
theorem dX6_make_20 : decode cX6_make 20 = .ok (.iconst 2, 1) := by decide +kernel
theorem dX6_make_21 : decode cX6_make 21 = .ok (.irem, 1) := by decide +kernel
theorem dX6_make_22 : decode cX6_make 22 = .ok (.iconst 1, 1) := by decide +kernel
theorem dX6_make_23 : decode cX6_make 23 = .ok (.if_icmp .ne 14, 3) := by decide +kernel
theorem dX6_make_26 : decode cX6_make 26 = .ok (.aload_n 0, 1) := by decide +kernel
theorem dX6_make_27 : decode cX6_make 27 = .ok (.getfield 37, 3) := by decide +kernel
theorem dX6_make_30 : decode cX6_make 30 = .ok (.iload_n 2, 1) := by decide +kernel
theorem dX6_make_31 : decode cX6_make 31 = .ok (.iaload, 1) := by decide +kernel
theorem dX6_make_32 : decode cX6_make 32 = .ok (.iload_n 3, 1) := by decide +kernel
theorem dX6_make_33 : decode cX6_make 33 = .ok (.iand, 1) := by decide +kernel
theorem dX6_make_34 : decode cX6_make 34 = .ok (.goto 13, 3) := by decide +kernel
theorem dX6_make_37 : decode cX6_make 37 = .ok (.aload_n 0, 1) := by decide +kernel
theorem dX6_make_38 : decode cX6_make 38 = .ok (.getfield 37, 3) := by decide +kernel
theorem dX6_make_41 : decode cX6_make 41 = .ok (.iload_n 2, 1) := by decide +kernel
theorem dX6_make_42 : decode cX6_make 42 = .ok (.iaload, 1) := by decide +kernel
theorem dX6_make_43 : decode cX6_make 43 = .ok (.iload_n 3, 1) := by decide +kernel
theorem dX6_make_44 : decode cX6_make 44 = .ok (.iconst (-1), 1) := by decide +kernel
theorem dX6_make_45 : decode cX6_make 45 = .ok (.ixor, 1) := by decide +kernel
theorem dX6_make_46 : decode cX6_make 46 = .ok (.iand, 1) := by decide +kernel
theorem dX6_make_47 : decode cX6_make 47 = .ok (.iastore, 1) := by decide +kernel
theorem dX6_make_48 : decode cX6_make 48 = .ok (.aload_n 0, 1) := by decide +kernel
theorem dX6_make_49 : decode cX6_make 49 = .ok (.aload_n 0, 1) := by decide +kernel
theorem dX6_make_50 : decode cX6_make 50 = .ok (.getfield 134, 3) := by decide +kernel
theorem dX6_make_53 : decode cX6_make 53 = .ok (.ifCond .ne 12, 3) := by decide +kernel
theorem dX6_make_56 : decode cX6_make 56 = .ok (.aload_n 0, 1) := by decide +kernel
theorem dX6_make_57 : decode cX6_make 57 = .ok (.getfield 37, 3) := by decide +kernel
theorem dX6_make_60 : decode cX6_make 60 = .ok (.iload_n 2, 1) := by decide +kernel
theorem dX6_make_61 : decode cX6_make 61 = .ok (.iaload, 1) := by decide +kernel
theorem dX6_make_62 : decode cX6_make 62 = .ok (.ifCond .ne 7, 3) := by decide +kernel
theorem dX6_make_65 : decode cX6_make 65 = .ok (.iconst 1, 1) := by decide +kernel
theorem dX6_make_66 : decode cX6_make 66 = .ok (.goto 4, 3) := by decide +kernel
theorem dX6_make_69 : decode cX6_make 69 = .ok (.iconst 0, 1) := by decide +kernel
theorem dX6_make_70 : decode cX6_make 70 = .ok (.putfield 134, 3) := by decide +kernel
theorem dX6_make_73 : decode cX6_make 73 = .ok (.return_, 1) := by decide +kernel
set_option maxRecDepth 20000 in
theorem ggX6_how_X6_symbolOf : GoodIn wsX6_how wsX6_symbolOf := goodIn_r _ [6, 7, 12, 13, 14, 15, 16, 17, 18, 19, 20, 21, 22, 23, 24, 25, 26, 27, 28, 29, 30, 31, 32, 33, 34] (by decide +kernel) (by decide +kernel)
set_option maxRecDepth 20000 in
theorem gX6_how_X6_symbolOf : GoodIn wsX6_how (wsV RX6 128 RX6 yX6_symbolOf wsX6_symbolOf) := goodIn_app (goodIn_of _ (by decide +kernel)) ggX6_how_X6_symbolOf
set_option maxRecDepth 20000 in
theorem ggX6_how_X6_cellOf : GoodIn wsX6_how wsX6_cellOf := goodIn_r _ [11, 7, 12, 13, 14, 15, 16, 17, 18, 19, 20, 21, 22, 23, 24, 25, 26, 27, 28, 29, 30, 31, 32, 33, 34] (by decide +kernel) (by decide +kernel)
set_option maxRecDepth 20000 in
theorem gX6_how_X6_cellOf : GoodIn wsX6_how (wsV RX6 125 RX6 yX6_cellOf wsX6_cellOf) := goodIn_app (goodIn_of _ (by decide +kernel)) ggX6_how_X6_cellOf
theorem dX6_how_0 : decode cX6_how 0 = .ok (.iconst 1, 1) := by decide +kernel
theorem dX6_how_1 : decode cX6_how 1 = .ok (.aload_n 0, 1) := by decide +kernel
theorem dX6_how_2 : decode cX6_how 2 = .ok (.iload_n 1, 1) := by decide +kernel
theorem dX6_how_3 : decode cX6_how 3 = .ok (.invokevirtual 128, 3) := by decide +kernel
theorem dX6_how_6 : decode cX6_how 6 = .ok (.ishl, 1) := by decide +kernel
theorem dX6_how_7 : decode cX6_how 7 = .ok (.istore_n 2, 1) := by decide +kernel
theorem dX6_how_8 : decode cX6_how 8 = .ok (.aload_n 0, 1) := by decide +kernel
theorem dX6_how_9 : decode cX6_how 9 = .ok (.getfield 37, 3) := by decide +kernel
theorem dX6_how_12 : decode cX6_how 12 = .ok (.aload_n 0, 1) := by decide +kernel
theorem dX6_how_13 : decode cX6_how 13 = .ok (.iload_n 1, 1) := by decide +kernel
theorem dX6_how_14 : decode cX6_how 14 = .ok (.invokevirtual 125, 3) := by decide +kernel
theorem dX6_how_17 : decode cX6_how 17 = .ok (.iaload, 1) := by decide +kernel
theorem dX6_how_18 : decode cX6_how 18 = .ok (.istore_n 3, 1) := by decide +kernel
theorem dX6_how_19 : decode cX6_how 19 = .ok (.iload_n 3, 1) := by decide +kernel
theorem dX6_how_20 : decode cX6_how 20 = .ok (.iload_n 2, 1) := by decide +kernel
theorem dX6_how_21 : decode cX6_how 21 = .ok (.if_icmp .ne 7, 3) := by decide +kernel
theorem dX6_how_24 : decode cX6_how 24 = .ok (.iconst 1, 1) := by decide +kernel
theorem dX6_how_25 : decode cX6_how 25 = .ok (.goto 14, 3) := by decide +kernel
theorem dX6_how_28 : decode cX6_how 28 = .ok (.iload_n 3, 1) := by decide +kernel
theorem dX6_how_29 : decode cX6_how 29 = .ok (.iload_n 2, 1) := by decide +kernel
theorem dX6_how_30 : decode cX6_how 30 = .ok (.iand, 1) := by decide +kernel
theorem dX6_how_31 : decode cX6_how 31 = .ok (.ifCond .ne 7, 3) := by decide +kernel
theorem dX6_how_34 : decode cX6_how 34 = .ok (.iconst (-1), 1) := by decide +kernel
theorem dX6_how_35 : decode cX6_how 35 = .ok (.goto 4, 3) := by decide +kernel
theorem dX6_how_38 : decode cX6_how 38 = .ok (.iconst 0, 1) := by decide +kernel
theorem dX6_how_39 : decode cX6_how 39 = .ok (.istore 4, 2) := by decide +kernel
theorem dX6_how_41 : decode cX6_how 41 = .ok (.iload_n 1, 1) := by decide +kernel
theorem dX6_how_42 : decode cX6_how 42 = .ok (.iconst 2, 1) := by decide +kernel
theorem dX6_how_43 : decode cX6_how 43 = .ok (.irem, 1) := by decide +kernel
theorem dX6_how_44 : decode cX6_how 44 = .ok (.iconst 1, 1) := by decide +kernel
theorem dX6_how_45 : decode cX6_how 45 = .ok (.if_icmp .ne 8, 3) := by decide +kernel
theorem dX6_how_48 : decode cX6_how 48 = .ok (.iload 4, 2) := by decide +kernel
theorem dX6_how_50 : decode cX6_how 50 = .ok (.goto 6, 3) := by decide +kernel
theorem dX6_how_53 : decode cX6_how 53 = .ok (.iload 4, 2) := by decide +kernel
theorem dX6_how_55 : decode cX6_how 55 = .ok (.ineg, 1) := by decide +kernel
theorem dX6_how_56 : decode cX6_how 56 = .ok (.ireturn, 1) := by decide +kernel
set_option maxRecDepth 20000 in
theorem ggX6_units_X6_how : GoodIn wsX6_units wsX6_how := goodIn_r _ [8, 9, 10, 11, 12, 7, 13, 14, 15, 16, 17, 18, 23, 24, 25, 26, 27, 28, 29, 30, 31, 32, 33, 34, 35, 36, 37, 38, 39, 40, 41, 42, 43, 44, 45] (by decide +kernel) (by decide +kernel)
set_option maxRecDepth 20000 in
theorem gX6_units_X6_how : GoodIn wsX6_units (wsV RX6 138 RX6 yX6_how wsX6_how) := goodIn_app (goodIn_of _ (by decide +kernel)) ggX6_units_X6_how
set_option maxRecDepth 20000 in
theorem ggX6_units_X6_make : GoodIn wsX6_units wsX6_make := goodIn_r _ [22, 9, 1, 15, 16, 17, 7, 18, 14, 10, 11, 12, 13, 23, 24, 25, 26, 27, 28, 29, 30, 31, 32, 33, 34, 35, 36, 37, 38, 39, 40, 41, 42, 43, 44, 45] (by decide +kernel) (by decide +kernel)
set_option maxRecDepth 20000 in
theorem gX6_units_X6_make : GoodIn wsX6_units (wsV RX6 141 RX6 yX6_make wsX6_make) := goodIn_app (goodIn_of _ (by decide +kernel)) ggX6_units_X6_make
theorem dX6_units_0 : decode cX6_units 0 = .ok (.aload_n 0, 1) := by decide +kernel
theorem dX6_units_1 : decode cX6_units 1 = .ok (.getfield 134, 3) := by decide +kernel
theorem dX6_units_4 : decode cX6_units 4 = .ok (.ifCond .ne 7, 3) := by decide +kernel
theorem dX6_units_7 : decode cX6_units 7 = .ok (.iconst 1, 1) := by decide +kernel
theorem dX6_units_8 : decode cX6_units 8 = .ok (.goto 4, 3) := by decide +kernel
theorem dX6_units_11 : decode cX6_units 11 = .ok (.iconst 0, 1) := by decide +kernel
theorem dX6_units_12 : decode cX6_units 12 = .ok (.istore_n 2, 1) := by decide +kernel
theorem dX6_units_13 : decode cX6_units 13 = .ok (.iload_n 2, 1) := by decide +kernel
theorem dX6_units_14 : decode cX6_units 14 = .ok (.ifCond .eq 164, 3) := by decide +kernel
theorem dX6_units_17 : decode cX6_units 17 = .ok (.iconst 0, 1) := by decide +kernel
theorem dX6_units_18 : decode cX6_units 18 = .ok (.istore_n 2, 1) := by decide +kernel
theorem dX6_units_19 : decode cX6_units 19 = .ok (.iconst 0, 1) := by decide +kernel
theorem dX6_units_20 : decode cX6_units 20 = .ok (.istore_n 3, 1) := by decide +kernel
theorem dX6_units_21 : decode cX6_units 21 = .ok (.iload_n 3, 1) := by decide +kernel
theorem dX6_units_22 : decode cX6_units 22 = .ok (.iload_n 1, 1) := by decide +kernel
theorem dX6_units_23 : decode cX6_units 23 = .ok (.if_icmp .ge 135, 3) := by decide +kernel
theorem dX6_units_26 : decode cX6_units 26 = .ok (.aload_n 0, 1) := by decide +kernel
theorem dX6_units_27 : decode cX6_units 27 = .ok (.getfield 134, 3) := by decide +kernel
theorem dX6_units_30 : decode cX6_units 30 = .ok (.ifCond .ne 128, 3) := by decide +kernel
theorem dX6_units_33 : decode cX6_units 33 = .ok (.iconst (-1), 1) := by decide +kernel
theorem dX6_units_34 : decode cX6_units 34 = .ok (.istore 4, 2) := by decide +kernel
theorem dX6_units_36 : decode cX6_units 36 = .ok (.iconst 0, 1) := by decide +kernel
theorem dX6_units_37 : decode cX6_units 37 = .ok (.istore 5, 2) := by decide +kernel
theorem dX6_units_39 : decode cX6_units 39 = .ok (.iconst 0, 1) := by decide +kernel
theorem dX6_units_40 : decode cX6_units 40 = .ok (.istore 6, 2) := by decide +kernel
theorem dX6_units_42 : decode cX6_units 42 = .ok (.iconst 0, 1) := by decide +kernel
theorem dX6_units_43 : decode cX6_units 43 = .ok (.istore 7, 2) := by decide +kernel
theorem dX6_units_45 : decode cX6_units 45 = .ok (.iload 7, 2) := by decide +kernel
theorem dX6_units_47 : decode cX6_units 47 = .ok (.aload_n 0, 1) := by decide +kernel
theorem dX6_units_48 : decode cX6_units 48 = .ok (.getfield 31, 3) := by decide +kernel
theorem dX6_units_51 : decode cX6_units 51 = .ok (.iload_n 3, 1) := by decide +kernel
theorem dX6_units_52 : decode cX6_units 52 = .ok (.iaload, 1) := by decide +kernel
theorem dX6_units_53 : decode cX6_units 53 = .ok (.if_icmp .ge 64, 3) := by decide +kernel
theorem dX6_units_56 : decode cX6_units 56 = .ok (.aload_n 0, 1) := by decide +kernel
theorem dX6_units_57 : decode cX6_units 57 = .ok (.getfield 34, 3) := by decide +kernel
theorem dX6_units_60 : decode cX6_units 60 = .ok (.bipush 16, 2) := by decide +kernel
theorem dX6_units_62 : decode cX6_units 62 = .ok (.iload_n 3, 1) := by decide +kernel
theorem dX6_units_63 : decode cX6_units 63 = .ok (.imul, 1) := by decide +kernel
theorem dX6_units_64 : decode cX6_units 64 = .ok (.iload 7, 2) := by decide +kernel
theorem dX6_units_66 : decode cX6_units 66 = .ok (.iadd, 1) := by decide +kernel
theorem dX6_units_67 : decode cX6_units 67 = .ok (.iaload, 1) := by decide +kernel
theorem dX6_units_68 : decode cX6_units 68 = .ok (.istore 8, 2) := by decide +kernel
theorem dX6_units_70 : decode cX6_units 70 = .ok (.iload 6, 2) := by decide +kernel
theorem dX6_units_72 : decode cX6_units 72 = .ok (.ifCond .ne 13, 3) := by decide +kernel
theorem dX6_units_75 : decode cX6_units 75 = .ok (.aload_n 0, 1) := by decide +kernel
theorem dX6_units_76 : decode cX6_units 76 = .ok (.iload 8, 2) := by decide +kernel
theorem dX6_units_78 : decode cX6_units 78 = .ok (.invokevirtual 138, 3) := by decide +kernel
theorem dX6_units_81 : decode cX6_units 81 = .ok (.iconst 1, 1) := by decide +kernel
theorem dX6_units_82 : decode cX6_units 82 = .ok (.if_icmp .ne 7, 3) := by decide +kernel
theorem dX6_units_85 : decode cX6_units 85 = .ok (.iconst 1, 1) := by decide +kernel
theorem dX6_units_86 : decode cX6_units 86 = .ok (.goto 4, 3) := by decide +kernel
theorem dX6_units_89 : decode cX6_units 89 = .ok (.iconst 0, 1) := by decide +kernel
theorem dX6_units_90 : decode cX6_units 90 = .ok (.istore 6, 2) := by decide +kernel
theorem dX6_units_92 : decode cX6_units 92 = .ok (.aload_n 0, 1) := by decide +kernel
theorem dX6_units_93 : decode cX6_units 93 = .ok (.iload 8, 2) := by decide +kernel
theorem dX6_units_95 : decode cX6_units 95 = .ok (.invokevirtual 138, 3) := by decide +kernel
theorem dX6_units_98 : decode cX6_units 98 = .ok (.ifCond .eq 6, 3) := by decide +kernel
theorem dX6_units_101 : decode cX6_units 101 = .ok (.goto 10, 3) := by decide +kernel
theorem dX6_units_104 : decode cX6_units 104 = .ok (.iload 8, 2) := by decide +kernel
theorem dX6_units_106 : decode cX6_units 106 = .ok (.istore 4, 2) := by decide +kernel
theorem dX6_units_108 : decode cX6_units 108 = .ok (.iinc 5 1, 3) := by decide +kernel
theorem dX6_units_111 : decode cX6_units 111 = .ok (.iinc 7 1, 3) := by decide +kernel
theorem dX6_units_114 : decode cX6_units 114 = .ok (.goto (-69), 3) := by decide +kernel
theorem dX6_units_117 : decode cX6_units 117 = .ok (.iload 6, 2) := by decide +kernel
theorem dX6_units_119 : decode cX6_units 119 = .ok (.ifCond .ne 33, 3) := by decide +kernel
theorem dX6_units_122 : decode cX6_units 122 = .ok (.iload 5, 2) := by decide +kernel
theorem dX6_units_124 : decode cX6_units 124 = .ok (.iconst 1, 1) := by decide +kernel
theorem dX6_units_125 : decode cX6_units 125 = .ok (.if_icmp .le 6, 3) := by decide +kernel
theorem dX6_units_128 : decode cX6_units 128 = .ok (.goto 24, 3) := by decide +kernel
theorem dX6_units_131 : decode cX6_units 131 = .ok (.iload 5, 2) := by decide +kernel
theorem dX6_units_133 : decode cX6_units 133 = .ok (.ifCond .ne 11, 3) := by decide +kernel
theorem dX6_units_136 : decode cX6_units 136 = .ok (.aload_n 0, 1) := by decide +kernel
theorem dX6_units_137 : decode cX6_units 137 = .ok (.iconst 1, 1) := by decide +kernel
theorem dX6_units_138 : decode cX6_units 138 = .ok (.putfield 134, 3) := by decide +kernel
theorem dX6_units_141 : decode cX6_units 141 = .ok (.goto 11, 3) := by decide +kernel
theorem dX6_units_144 : decode cX6_units 144 = .ok (.aload_n 0, 1) := by decide +kernel
theorem dX6_units_145 : decode cX6_units 145 = .ok (.iload 4, 2) := by decide +kernel
theorem dX6_units_147 : decode cX6_units 147 = .ok (.invokevirtual 141, 3) := by decide +kernel
theorem dX6_units_150 : decode cX6_units 150 = .ok (.iconst 1, 1) := by decide +kernel
theorem dX6_units_151 : decode cX6_units 151 = .ok (.istore_n 2, 1) := by decide +kernel
theorem dX6_units_152 : decode cX6_units 152 = .ok (.iinc 3 1, 3) := by decide +kernel
theorem dX6_units_155 : decode cX6_units 155 = .ok (.goto (-134), 3) := by decide +kernel
theorem dX6_units_158 : decode cX6_units 158 = .ok (.iload_n 2, 1) := by decide +kernel
theorem dX6_units_159 : decode cX6_units 159 = .ok (.ifCond .eq 14, 3) := by decide +kernel
theorem dX6_units_162 : decode cX6_units 162 = .ok (.aload_n 0, 1) := by decide +kernel
theorem dX6_units_163 : decode cX6_units 163 = .ok (.getfield 134, 3) := by decide +kernel
theorem dX6_units_166 : decode cX6_units 166 = .ok (.ifCond .ne 7, 3) := by decide +kernel
theorem dX6_units_169 : decode cX6_units 169 = .ok (.iconst 1, 1) := by decide +kernel
theorem dX6_units_170 : decode cX6_units 170 = .ok (.goto 4, 3) := by decide +kernel
theorem dX6_units_173 : decode cX6_units 173 = .ok (.iconst 0, 1) := by decide +kernel
theorem dX6_units_174 : decode cX6_units 174 = .ok (.istore_n 2, 1) := by decide +kernel
theorem dX6_units_175 : decode cX6_units 175 = .ok (.goto (-162), 3) := by decide +kernel
theorem dX6_units_178 : decode cX6_units 178 = .ok (.return_, 1) := by decide +kernel
set_option maxRecDepth 20000 in
theorem ggX6_turned_X6_all : GoodIn wsX6_turned wsX6_all := goodIn_r _ [7, 8, 9, 10, 31, 32, 33, 34, 35, 36, 37, 38, 39, 40, 41, 42, 43, 44, 45, 46, 47, 48, 49, 50, 51, 52, 53] (by decide +kernel) (by decide +kernel)
set_option maxRecDepth 20000 in
theorem gX6_turned_X6_all : GoodIn wsX6_turned (wsV RX6 145 RX6 yX6_all wsX6_all) := goodIn_app (goodIn_of _ (by decide +kernel)) ggX6_turned_X6_all
set_option maxRecDepth 20000 in
theorem ggX6_turned_X6_make : GoodIn wsX6_turned wsX6_make := goodIn_r _ [14, 9, 8, 15, 16, 17, 6, 18, 10, 19, 20, 21, 22, 31, 32, 33, 34, 35, 36, 37, 38, 39, 40, 41, 42, 43, 44, 45, 46, 47, 48, 49, 50, 51, 52, 53] (by decide +kernel) (by decide +kernel)
set_option maxRecDepth 20000 in
theorem gX6_turned_X6_make : GoodIn wsX6_turned (wsV RX6 141 RX6 yX6_make wsX6_make) := goodIn_app (goodIn_of _ (by decide +kernel)) ggX6_turned_X6_make
set_option maxRecDepth 20000 in
theorem ggX6_turned_X6_units : GoodIn wsX6_turned wsX6_units := goodIn_r _ [26, 8, 1, 2, 27, 28, 29, 6, 30, 9, 19, 20, 21, 22, 10, 15, 16, 17, 18, 11, 12, 13, 14, 31, 32, 33, 34, 35, 36, 37, 38, 39, 40, 41, 42, 43, 44, 45, 46, 47, 48, 49, 50, 51, 52, 53] (by decide +kernel) (by decide +kernel)
set_option maxRecDepth 20000 in
theorem gX6_turned_X6_units : GoodIn wsX6_turned (wsV RX6 148 RX6 yX6_units wsX6_units) := goodIn_app (goodIn_of _ (by decide +kernel)) ggX6_turned_X6_units
theorem dX6_turned_0 : decode cX6_turned 0 = .ok (.aload_n 0, 1) := by decide +kernel
theorem dX6_turned_1 : decode cX6_turned 1 = .ok (.invokevirtual 145, 3) := by decide +kernel
theorem dX6_turned_4 : decode cX6_turned 4 = .ok (.iconst 0, 1) := by decide +kernel
theorem dX6_turned_5 : decode cX6_turned 5 = .ok (.istore_n 2, 1) := by decide +kernel
theorem dX6_turned_6 : decode cX6_turned 6 = .ok (.iload_n 2, 1) := by decide +kernel
theorem dX6_turned_7 : decode cX6_turned 7 = .ok (.aload_n 0, 1) := by decide +kernel
theorem dX6_turned_8 : decode cX6_turned 8 = .ok (.getfield 31, 3) := by decide +kernel
theorem dX6_turned_11 : decode cX6_turned 11 = .ok (.iload_n 1, 1) := by decide +kernel
theorem dX6_turned_12 : decode cX6_turned 12 = .ok (.iaload, 1) := by decide +kernel
theorem dX6_turned_13 : decode cX6_turned 13 = .ok (.if_icmp .ge 26, 3) := by decide +kernel
theorem dX6_turned_16 : decode cX6_turned 16 = .ok (.aload_n 0, 1) := by decide +kernel
theorem dX6_turned_17 : decode cX6_turned 17 = .ok (.aload_n 0, 1) := by decide +kernel
theorem dX6_turned_18 : decode cX6_turned 18 = .ok (.getfield 34, 3) := by decide +kernel
theorem dX6_turned_21 : decode cX6_turned 21 = .ok (.bipush 16, 2) := by decide +kernel
theorem dX6_turned_23 : decode cX6_turned 23 = .ok (.iload_n 1, 1) := by decide +kernel
theorem dX6_turned_24 : decode cX6_turned 24 = .ok (.imul, 1) := by decide +kernel
theorem dX6_turned_25 : decode cX6_turned 25 = .ok (.iload_n 2, 1) := by decide +kernel
theorem dX6_turned_26 : decode cX6_turned 26 = .ok (.iadd, 1) := by decide +kernel
theorem dX6_turned_27 : decode cX6_turned 27 = .ok (.iaload, 1) := by decide +kernel
theorem dX6_turned_28 : decode cX6_turned 28 = .ok (.iconst 1, 1) := by decide +kernel
theorem dX6_turned_29 : decode cX6_turned 29 = .ok (.ixor, 1) := by decide +kernel
theorem dX6_turned_30 : decode cX6_turned 30 = .ok (.invokevirtual 141, 3) := by decide +kernel
theorem dX6_turned_33 : decode cX6_turned 33 = .ok (.iinc 2 1, 3) := by decide +kernel
theorem dX6_turned_36 : decode cX6_turned 36 = .ok (.goto (-30), 3) := by decide +kernel
theorem dX6_turned_39 : decode cX6_turned 39 = .ok (.aload_n 0, 1) := by decide +kernel
theorem dX6_turned_40 : decode cX6_turned 40 = .ok (.iload_n 1, 1) := by decide +kernel
theorem dX6_turned_41 : decode cX6_turned 41 = .ok (.invokevirtual 148, 3) := by decide +kernel
theorem dX6_turned_44 : decode cX6_turned 44 = .ok (.return_, 1) := by decide +kernel
set_option maxRecDepth 20000 in
theorem ggX6_bySplit_X6_isCell : GoodIn wsX6_bySplit wsX6_isCell := goodIn_r _ [10, 11, 12, 13, 9, 14, 15, 16, 47, 48, 49, 50, 51, 52, 53, 54, 55, 56, 57, 58, 59, 60, 61, 62, 63, 64, 65, 66, 67, 68, 69] (by decide +kernel) (by decide +kernel)
set_option maxRecDepth 20000 in
theorem gX6_bySplit_X6_isCell : GoodIn wsX6_bySplit (wsV RX6 76 RX6 yX6_isCell wsX6_isCell) := goodIn_app (goodIn_of _ (by decide +kernel)) ggX6_bySplit_X6_isCell
set_option maxRecDepth 20000 in
theorem ggX6_bySplit_X6_turned : GoodIn wsX6_bySplit wsX6_turned := goodIn_r _ [20, 21, 22, 23, 24, 25, 9, 26, 2, 4, 5, 27, 28, 29, 30, 31, 32, 33, 34, 35, 36, 37, 38, 39, 40, 41, 42, 43, 44, 45, 46, 47, 48, 49, 50, 51, 52, 53, 54, 55, 56, 57, 58, 59, 60, 61, 62, 63, 64, 65, 66, 67, 68, 69] (by decide +kernel) (by decide +kernel)
set_option maxRecDepth 20000 in
theorem gX6_bySplit_X6_turned : GoodIn wsX6_bySplit (wsV RX6 151 RX6 yX6_turned wsX6_turned) := goodIn_app (goodIn_of _ (by decide +kernel)) ggX6_bySplit_X6_turned
set_option maxRecDepth 20000 in
theorem ggX6_bySplit_X6_units : GoodIn wsX6_bySplit wsX6_units := goodIn_r _ [42, 2, 21, 22, 43, 44, 45, 9, 46, 4, 35, 36, 37, 38, 5, 31, 32, 33, 34, 27, 28, 29, 30, 47, 48, 49, 50, 51, 52, 53, 54, 55, 56, 57, 58, 59, 60, 61, 62, 63, 64, 65, 66, 67, 68, 69] (by decide +kernel) (by decide +kernel)
set_option maxRecDepth 20000 in
theorem gX6_bySplit_X6_units : GoodIn wsX6_bySplit (wsV RX6 148 RX6 yX6_units wsX6_units) := goodIn_app (goodIn_of _ (by decide +kernel)) ggX6_bySplit_X6_units
theorem dX6_bySplit_0 : decode cX6_bySplit 0 = .ok (.aload_n 0, 1) := by decide +kernel
theorem dX6_bySplit_1 : decode cX6_bySplit 1 = .ok (.getfield 28, 3) := by decide +kernel
theorem dX6_bySplit_4 : decode cX6_bySplit 4 = .ok (.iload_n 1, 1) := by decide +kernel
theorem dX6_bySplit_5 : decode cX6_bySplit 5 = .ok (.iaload, 1) := by decide +kernel
theorem dX6_bySplit_6 : decode cX6_bySplit 6 = .ok (.istore_n 2, 1) := by decide +kernel
theorem dX6_bySplit_7 : decode cX6_bySplit 7 = .ok (.aload_n 0, 1) := by decide +kernel
theorem dX6_bySplit_8 : decode cX6_bySplit 8 = .ok (.iload_n 2, 1) := by decide +kernel
theorem dX6_bySplit_9 : decode cX6_bySplit 9 = .ok (.invokevirtual 76, 3) := by decide +kernel
theorem dX6_bySplit_12 : decode cX6_bySplit 12 = .ok (.ifCond .ne 5, 3) := by decide +kernel
theorem dX6_bySplit_15 : decode cX6_bySplit 15 = .ok (.iconst 0, 1) := by decide +kernel
theorem dX6_bySplit_16 : decode cX6_bySplit 16 = .ok (.ireturn, 1) := by decide +kernel
theorem dX6_bySplit_17 : decode cX6_bySplit 17 = .ok (.aload_n 0, 1) := by decide +kernel
theorem dX6_bySplit_18 : decode cX6_bySplit 18 = .ok (.iload_n 1, 1) := by decide +kernel
theorem dX6_bySplit_19 : decode cX6_bySplit 19 = .ok (.invokevirtual 151, 3) := by decide +kernel
theorem dX6_bySplit_22 : decode cX6_bySplit 22 = .ok (.aload_n 0, 1) := by decide +kernel
theorem dX6_bySplit_23 : decode cX6_bySplit 23 = .ok (.getfield 134, 3) := by decide +kernel
theorem dX6_bySplit_26 : decode cX6_bySplit 26 = .ok (.ifCond .eq 5, 3) := by decide +kernel
theorem dX6_bySplit_29 : decode cX6_bySplit 29 = .ok (.iconst 1, 1) := by decide +kernel
theorem dX6_bySplit_30 : decode cX6_bySplit 30 = .ok (.ireturn, 1) := by decide +kernel
theorem dX6_bySplit_31 : decode cX6_bySplit 31 = .ok (.iconst 0, 1) := by decide +kernel
theorem dX6_bySplit_32 : decode cX6_bySplit 32 = .ok (.istore_n 3, 1) := by decide +kernel
theorem dX6_bySplit_33 : decode cX6_bySplit 33 = .ok (.iload_n 3, 1) := by decide +kernel
theorem dX6_bySplit_34 : decode cX6_bySplit 34 = .ok (.bipush 16, 2) := by decide +kernel
theorem dX6_bySplit_36 : decode cX6_bySplit 36 = .ok (.if_icmp .ge 21, 3) := by decide +kernel
theorem dX6_bySplit_39 : decode cX6_bySplit 39 = .ok (.aload_n 0, 1) := by decide +kernel
theorem dX6_bySplit_40 : decode cX6_bySplit 40 = .ok (.getfield 40, 3) := by decide +kernel
theorem dX6_bySplit_43 : decode cX6_bySplit 43 = .ok (.iload_n 3, 1) := by decide +kernel
theorem dX6_bySplit_44 : decode cX6_bySplit 44 = .ok (.aload_n 0, 1) := by decide +kernel
theorem dX6_bySplit_45 : decode cX6_bySplit 45 = .ok (.getfield 37, 3) := by decide +kernel
theorem dX6_bySplit_48 : decode cX6_bySplit 48 = .ok (.iload_n 3, 1) := by decide +kernel
theorem dX6_bySplit_49 : decode cX6_bySplit 49 = .ok (.iaload, 1) := by decide +kernel
theorem dX6_bySplit_50 : decode cX6_bySplit 50 = .ok (.iastore, 1) := by decide +kernel
theorem dX6_bySplit_51 : decode cX6_bySplit 51 = .ok (.iinc 3 1, 3) := by decide +kernel
theorem dX6_bySplit_54 : decode cX6_bySplit 54 = .ok (.goto (-21), 3) := by decide +kernel
theorem dX6_bySplit_57 : decode cX6_bySplit 57 = .ok (.iconst 0, 1) := by decide +kernel
theorem dX6_bySplit_58 : decode cX6_bySplit 58 = .ok (.istore_n 3, 1) := by decide +kernel
theorem dX6_bySplit_59 : decode cX6_bySplit 59 = .ok (.iload_n 3, 1) := by decide +kernel
theorem dX6_bySplit_60 : decode cX6_bySplit 60 = .ok (.aload_n 0, 1) := by decide +kernel
theorem dX6_bySplit_61 : decode cX6_bySplit 61 = .ok (.getfield 60, 3) := by decide +kernel
theorem dX6_bySplit_64 : decode cX6_bySplit 64 = .ok (.if_icmp .ge 83, 3) := by decide +kernel
theorem dX6_bySplit_67 : decode cX6_bySplit 67 = .ok (.aload_n 0, 1) := by decide +kernel
theorem dX6_bySplit_68 : decode cX6_bySplit 68 = .ok (.getfield 40, 3) := by decide +kernel
theorem dX6_bySplit_71 : decode cX6_bySplit 71 = .ok (.iload_n 2, 1) := by decide +kernel
theorem dX6_bySplit_72 : decode cX6_bySplit 72 = .ok (.iaload, 1) := by decide +kernel
theorem dX6_bySplit_73 : decode cX6_bySplit 73 = .ok (.iload_n 3, 1) := by decide +kernel
theorem dX6_bySplit_74 : decode cX6_bySplit 74 = .ok (.ishr, 1) := by decide +kernel
theorem dX6_bySplit_75 : decode cX6_bySplit 75 = .ok (.iconst 1, 1) := by decide +kernel
theorem dX6_bySplit_76 : decode cX6_bySplit 76 = .ok (.iand, 1) := by decide +kernel
theorem dX6_bySplit_77 : decode cX6_bySplit 77 = .ok (.ifCond .ne 6, 3) := by decide +kernel
theorem dX6_bySplit_80 : decode cX6_bySplit 80 = .ok (.goto 61, 3) := by decide +kernel
theorem dX6_bySplit_83 : decode cX6_bySplit 83 = .ok (.iconst 0, 1) := by decide +kernel
theorem dX6_bySplit_84 : decode cX6_bySplit 84 = .ok (.istore 4, 2) := by decide +kernel
theorem dX6_bySplit_86 : decode cX6_bySplit 86 = .ok (.iload 4, 2) := by decide +kernel
theorem dX6_bySplit_88 : decode cX6_bySplit 88 = .ok (.bipush 16, 2) := by decide +kernel
theorem dX6_bySplit_90 : decode cX6_bySplit 90 = .ok (.if_icmp .ge 23, 3) := by decide +kernel
theorem dX6_bySplit_93 : decode cX6_bySplit 93 = .ok (.aload_n 0, 1) := by decide +kernel
theorem dX6_bySplit_94 : decode cX6_bySplit 94 = .ok (.getfield 37, 3) := by decide +kernel
theorem dX6_bySplit_97 : decode cX6_bySplit 97 = .ok (.iload 4, 2) := by decide +kernel
theorem dX6_bySplit_99 : decode cX6_bySplit 99 = .ok (.aload_n 0, 1) := by decide +kernel
theorem dX6_bySplit_100 : decode cX6_bySplit 100 = .ok (.getfield 40, 3) := by decide +kernel
theorem dX6_bySplit_103 : decode cX6_bySplit 103 = .ok (.iload 4, 2) := by decide +kernel
theorem dX6_bySplit_105 : decode cX6_bySplit 105 = .ok (.iaload, 1) := by decide +kernel
theorem dX6_bySplit_106 : decode cX6_bySplit 106 = .ok (.iastore, 1) := by decide +kernel
theorem dX6_bySplit_107 : decode cX6_bySplit 107 = .ok (.iinc 4 1, 3) := by decide +kernel
theorem dX6_bySplit_110 : decode cX6_bySplit 110 = .ok (.goto (-24), 3) := by decide +kernel
theorem dX6_bySplit_113 : decode cX6_bySplit 113 = .ok (.aload_n 0, 1) := by decide +kernel
theorem dX6_bySplit_114 : decode cX6_bySplit 114 = .ok (.iconst 0, 1) := by decide +kernel
theorem dX6_bySplit_115 : decode cX6_bySplit 115 = .ok (.putfield 134, 3) := by decide +kernel
theorem dX6_bySplit_118 : decode cX6_bySplit 118 = .ok (.aload_n 0, 1) := by decide +kernel
theorem dX6_bySplit_119 : decode cX6_bySplit 119 = .ok (.getfield 37, 3) := by decide +kernel
theorem dX6_bySplit_122 : decode cX6_bySplit 122 = .ok (.iload_n 2, 1) := by decide +kernel
theorem dX6_bySplit_123 : decode cX6_bySplit 123 = .ok (.iconst 1, 1) := by decide +kernel
theorem dX6_bySplit_124 : decode cX6_bySplit 124 = .ok (.iload_n 3, 1) := by decide +kernel
theorem dX6_bySplit_125 : decode cX6_bySplit 125 = .ok (.ishl, 1) := by decide +kernel
theorem dX6_bySplit_126 : decode cX6_bySplit 126 = .ok (.iastore, 1) := by decide +kernel
theorem dX6_bySplit_127 : decode cX6_bySplit 127 = .ok (.aload_n 0, 1) := by decide +kernel
theorem dX6_bySplit_128 : decode cX6_bySplit 128 = .ok (.iload_n 1, 1) := by decide +kernel
theorem dX6_bySplit_129 : decode cX6_bySplit 129 = .ok (.invokevirtual 148, 3) := by decide +kernel
theorem dX6_bySplit_132 : decode cX6_bySplit 132 = .ok (.aload_n 0, 1) := by decide +kernel
theorem dX6_bySplit_133 : decode cX6_bySplit 133 = .ok (.getfield 134, 3) := by decide +kernel
theorem dX6_bySplit_136 : decode cX6_bySplit 136 = .ok (.ifCond .ne 5, 3) := by decide +kernel
theorem dX6_bySplit_139 : decode cX6_bySplit 139 = .ok (.iconst 0, 1) := by decide +kernel
theorem dX6_bySplit_140 : decode cX6_bySplit 140 = .ok (.ireturn, 1) := by decide +kernel
theorem dX6_bySplit_141 : decode cX6_bySplit 141 = .ok (.iinc 3 1, 3) := by decide +kernel
theorem dX6_bySplit_144 : decode cX6_bySplit 144 = .ok (.goto (-85), 3) := by decide +kernel
theorem dX6_bySplit_147 : decode cX6_bySplit 147 = .ok (.iconst 1, 1) := by decide +kernel
theorem dX6_bySplit_148 : decode cX6_bySplit 148 = .ok (.ireturn, 1) := by decide +kernel
set_option maxRecDepth 20000 in
theorem ggX6_isBarred_X6_firstFailing : GoodIn wsX6_isBarred wsX6_firstFailing := goodIn_r _ [7, 8, 9, 10, 11, 6, 12, 13, 14, 2, 15, 16, 17, 18, 19, 20, 21, 22, 23, 24, 25, 26, 27, 28, 29, 30, 31, 32, 33, 34, 50, 51, 52, 53, 54, 55, 56, 57, 58, 59, 60, 61, 62, 63, 64, 65, 66, 67, 68, 69, 70, 71, 72] (by decide +kernel) (by decide +kernel)
set_option maxRecDepth 20000 in
theorem gX6_isBarred_X6_firstFailing : GoodIn wsX6_isBarred (wsV RX6 104 RX6 yX6_firstFailing wsX6_firstFailing) := goodIn_app (goodIn_of _ (by decide +kernel)) ggX6_isBarred_X6_firstFailing
set_option maxRecDepth 20000 in
theorem ggX6_isBarred_X6_cells : GoodIn wsX6_isBarred wsX6_cells := goodIn_r _ [38, 34, 39, 50, 51, 52, 53, 54, 55, 56, 57, 58, 59, 60, 61, 62, 63, 64, 65, 66, 67, 68, 69, 70, 71, 72] (by decide +kernel) (by decide +kernel)
set_option maxRecDepth 20000 in
theorem gX6_isBarred_X6_cells : GoodIn wsX6_isBarred (wsV RX6 66 RX6 yX6_cells wsX6_cells) := goodIn_app (goodIn_of _ (by decide +kernel)) ggX6_isBarred_X6_cells
set_option maxRecDepth 20000 in
theorem ggX6_isBarred_X6_literalOf : GoodIn wsX6_isBarred wsX6_literalOf := goodIn_r _ [43, 44, 50, 51, 52, 53, 54, 55, 56, 57, 58, 59, 60, 61, 62, 63, 64, 65, 66, 67, 68, 69, 70, 71, 72] (by decide +kernel) (by decide +kernel)
set_option maxRecDepth 20000 in
theorem gX6_isBarred_X6_literalOf : GoodIn wsX6_isBarred (wsV RX6 114 RX6 yX6_literalOf wsX6_literalOf) := goodIn_app (goodIn_of _ (by decide +kernel)) ggX6_isBarred_X6_literalOf
set_option maxRecDepth 20000 in
theorem ggX6_isBarred_X6_has : GoodIn wsX6_isBarred wsX6_has := goodIn_r _ [48, 1, 49, 50, 51, 52, 53, 54, 55, 56, 57, 58, 59, 60, 61, 62, 63, 64, 65, 66, 67, 68, 69, 70, 71, 72] (by decide +kernel) (by decide +kernel)
set_option maxRecDepth 20000 in
theorem gX6_isBarred_X6_has : GoodIn wsX6_isBarred (wsV RX6 118 RX6 yX6_has wsX6_has) := goodIn_app (goodIn_of _ (by decide +kernel)) ggX6_isBarred_X6_has
theorem dX6_isBarred_0 : decode cX6_isBarred 0 = .ok (.aload_n 0, 1) := by decide +kernel
theorem dX6_isBarred_1 : decode cX6_isBarred 1 = .ok (.invokevirtual 104, 3) := by decide +kernel
theorem dX6_isBarred_4 : decode cX6_isBarred 4 = .ok (.ifCond .ge 16, 3) := by decide +kernel
theorem dX6_isBarred_7 : decode cX6_isBarred 7 = .ok (.aload_n 0, 1) := by decide +kernel
theorem dX6_isBarred_8 : decode cX6_isBarred 8 = .ok (.getfield 31, 3) := by decide +kernel
theorem dX6_isBarred_11 : decode cX6_isBarred 11 = .ok (.iload_n 1, 1) := by decide +kernel
theorem dX6_isBarred_12 : decode cX6_isBarred 12 = .ok (.iaload, 1) := by decide +kernel
theorem dX6_isBarred_13 : decode cX6_isBarred 13 = .ok (.aload_n 0, 1) := by decide +kernel
theorem dX6_isBarred_14 : decode cX6_isBarred 14 = .ok (.invokevirtual 66, 3) := by decide +kernel
theorem dX6_isBarred_17 : decode cX6_isBarred 17 = .ok (.if_icmp .eq 5, 3) := by decide +kernel
theorem dX6_isBarred_20 : decode cX6_isBarred 20 = .ok (.iconst 0, 1) := by decide +kernel
theorem dX6_isBarred_21 : decode cX6_isBarred 21 = .ok (.ireturn, 1) := by decide +kernel
theorem dX6_isBarred_22 : decode cX6_isBarred 22 = .ok (.iconst 0, 1) := by decide +kernel
theorem dX6_isBarred_23 : decode cX6_isBarred 23 = .ok (.istore_n 2, 1) := by decide +kernel
theorem dX6_isBarred_24 : decode cX6_isBarred 24 = .ok (.iload_n 2, 1) := by decide +kernel
theorem dX6_isBarred_25 : decode cX6_isBarred 25 = .ok (.aload_n 0, 1) := by decide +kernel
theorem dX6_isBarred_26 : decode cX6_isBarred 26 = .ok (.invokevirtual 66, 3) := by decide +kernel
theorem dX6_isBarred_29 : decode cX6_isBarred 29 = .ok (.if_icmp .ge 40, 3) := by decide +kernel
theorem dX6_isBarred_32 : decode cX6_isBarred 32 = .ok (.aload_n 0, 1) := by decide +kernel
theorem dX6_isBarred_33 : decode cX6_isBarred 33 = .ok (.getfield 22, 3) := by decide +kernel
theorem dX6_isBarred_36 : decode cX6_isBarred 36 = .ok (.iload_n 2, 1) := by decide +kernel
theorem dX6_isBarred_37 : decode cX6_isBarred 37 = .ok (.iaload, 1) := by decide +kernel
theorem dX6_isBarred_38 : decode cX6_isBarred 38 = .ok (.ifCond .lt 23, 3) := by decide +kernel
theorem dX6_isBarred_41 : decode cX6_isBarred 41 = .ok (.aload_n 0, 1) := by decide +kernel
theorem dX6_isBarred_42 : decode cX6_isBarred 42 = .ok (.iload_n 1, 1) := by decide +kernel
theorem dX6_isBarred_43 : decode cX6_isBarred 43 = .ok (.aload_n 0, 1) := by decide +kernel
theorem dX6_isBarred_44 : decode cX6_isBarred 44 = .ok (.iload_n 2, 1) := by decide +kernel
theorem dX6_isBarred_45 : decode cX6_isBarred 45 = .ok (.aload_n 0, 1) := by decide +kernel
theorem dX6_isBarred_46 : decode cX6_isBarred 46 = .ok (.getfield 22, 3) := by decide +kernel
theorem dX6_isBarred_49 : decode cX6_isBarred 49 = .ok (.iload_n 2, 1) := by decide +kernel
theorem dX6_isBarred_50 : decode cX6_isBarred 50 = .ok (.iaload, 1) := by decide +kernel
theorem dX6_isBarred_51 : decode cX6_isBarred 51 = .ok (.iconst 0, 1) := by decide +kernel
theorem dX6_isBarred_52 : decode cX6_isBarred 52 = .ok (.invokevirtual 114, 3) := by decide +kernel
theorem dX6_isBarred_55 : decode cX6_isBarred 55 = .ok (.invokevirtual 118, 3) := by decide +kernel
theorem dX6_isBarred_58 : decode cX6_isBarred 58 = .ok (.ifCond .ne 5, 3) := by decide +kernel
theorem dX6_isBarred_61 : decode cX6_isBarred 61 = .ok (.iconst 0, 1) := by decide +kernel
theorem dX6_isBarred_62 : decode cX6_isBarred 62 = .ok (.ireturn, 1) := by decide +kernel
theorem dX6_isBarred_63 : decode cX6_isBarred 63 = .ok (.iinc 2 1, 3) := by decide +kernel
theorem dX6_isBarred_66 : decode cX6_isBarred 66 = .ok (.goto (-42), 3) := by decide +kernel
theorem dX6_isBarred_69 : decode cX6_isBarred 69 = .ok (.iconst 1, 1) := by decide +kernel
theorem dX6_isBarred_70 : decode cX6_isBarred 70 = .ok (.ireturn, 1) := by decide +kernel
set_option maxRecDepth 20000 in
theorem ggX6_isRight_X6_byRule : GoodIn wsX6_isRight wsX6_byRule := goodIn_r _ [7, 8, 9, 10, 11, 12, 13, 14, 15, 16, 17, 6, 18, 19, 20, 21, 22, 23, 24, 25, 26, 27, 28, 29, 30, 31, 32, 33, 34, 35, 36, 37, 38, 39, 40, 41, 42, 43, 44, 45, 46, 47, 48, 49, 50, 107, 108, 109, 110, 111, 112, 113, 114, 115, 116, 117, 118, 119, 120, 121, 122, 123, 124, 125, 126, 127, 128, 129] (by decide +kernel) (by decide +kernel)
set_option maxRecDepth 20000 in
theorem gX6_isRight_X6_byRule : GoodIn wsX6_isRight (wsV RX6 154 RX6 yX6_byRule wsX6_byRule) := goodIn_app (goodIn_of _ (by decide +kernel)) ggX6_isRight_X6_byRule
set_option maxRecDepth 20000 in
theorem ggX6_isRight_X6_turned : GoodIn wsX6_isRight wsX6_turned := goodIn_r _ [54, 13, 14, 55, 56, 57, 6, 58, 2, 59, 11, 60, 61, 62, 63, 39, 40, 41, 42, 47, 48, 49, 50, 64, 65, 66, 67, 68, 69, 70, 71, 107, 108, 109, 110, 111, 112, 113, 114, 115, 116, 117, 118, 119, 120, 121, 122, 123, 124, 125, 126, 127, 128, 129] (by decide +kernel) (by decide +kernel)
set_option maxRecDepth 20000 in
theorem gX6_isRight_X6_turned : GoodIn wsX6_isRight (wsV RX6 151 RX6 yX6_turned wsX6_turned) := goodIn_app (goodIn_of _ (by decide +kernel)) ggX6_isRight_X6_turned
set_option maxRecDepth 20000 in
theorem ggX6_isRight_X6_bySplit : GoodIn wsX6_isRight wsX6_bySplit := goodIn_r _ [75, 8, 2, 76, 59, 11, 77, 78, 79, 6, 80, 81, 82, 83, 84, 34, 85, 51, 52, 53, 54, 13, 14, 55, 56, 57, 58, 60, 61, 62, 63, 39, 40, 41, 42, 47, 48, 49, 50, 64, 65, 66, 67, 68, 69, 70, 71, 107, 108, 109, 110, 111, 112, 113, 114, 115, 116, 117, 118, 119, 120, 121, 122, 123, 124, 125, 126, 127, 128, 129] (by decide +kernel) (by decide +kernel)
set_option maxRecDepth 20000 in
theorem gX6_isRight_X6_bySplit : GoodIn wsX6_isRight (wsV RX6 157 RX6 yX6_bySplit wsX6_bySplit) := goodIn_app (goodIn_of _ (by decide +kernel)) ggX6_isRight_X6_bySplit
set_option maxRecDepth 20000 in
theorem ggX6_isRight_X6_isBarred : GoodIn wsX6_isRight wsX6_isBarred := goodIn_r _ [89, 13, 90, 91, 92, 93, 6, 94, 9, 95, 96, 97, 98, 10, 12, 25, 26, 27, 28, 29, 15, 16, 17, 18, 19, 20, 21, 22, 23, 24, 30, 31, 32, 33, 34, 81, 82, 83, 84, 85, 99, 100, 101, 102, 11, 103, 104, 105, 106, 14, 107, 108, 109, 110, 111, 112, 113, 114, 115, 116, 117, 118, 119, 120, 121, 122, 123, 124, 125, 126, 127, 128, 129] (by decide +kernel) (by decide +kernel)
set_option maxRecDepth 20000 in
theorem gX6_isRight_X6_isBarred : GoodIn wsX6_isRight (wsV RX6 160 RX6 yX6_isBarred wsX6_isBarred) := goodIn_app (goodIn_of _ (by decide +kernel)) ggX6_isRight_X6_isBarred
theorem dX6_isRight_0 : decode cX6_isRight 0 = .ok (.aload_n 0, 1) := by decide +kernel
theorem dX6_isRight_1 : decode cX6_isRight 1 = .ok (.getfield 25, 3) := by decide +kernel
theorem dX6_isRight_4 : decode cX6_isRight 4 = .ok (.iload_n 1, 1) := by decide +kernel
theorem dX6_isRight_5 : decode cX6_isRight 5 = .ok (.iaload, 1) := by decide +kernel
theorem dX6_isRight_6 : decode cX6_isRight 6 = .ok (.tableswitch 48 0 2 #[26, 32, 42], 26) := by decide +kernel
theorem dX6_isRight_32 : decode cX6_isRight 32 = .ok (.aload_n 0, 1) := by decide +kernel
theorem dX6_isRight_33 : decode cX6_isRight 33 = .ok (.iload_n 1, 1) := by decide +kernel
theorem dX6_isRight_34 : decode cX6_isRight 34 = .ok (.invokevirtual 154, 3) := by decide +kernel
theorem dX6_isRight_37 : decode cX6_isRight 37 = .ok (.ireturn, 1) := by decide +kernel
theorem dX6_isRight_38 : decode cX6_isRight 38 = .ok (.aload_n 0, 1) := by decide +kernel
theorem dX6_isRight_39 : decode cX6_isRight 39 = .ok (.iload_n 1, 1) := by decide +kernel
theorem dX6_isRight_40 : decode cX6_isRight 40 = .ok (.invokevirtual 151, 3) := by decide +kernel
theorem dX6_isRight_43 : decode cX6_isRight 43 = .ok (.aload_n 0, 1) := by decide +kernel
theorem dX6_isRight_44 : decode cX6_isRight 44 = .ok (.getfield 134, 3) := by decide +kernel
theorem dX6_isRight_47 : decode cX6_isRight 47 = .ok (.ireturn, 1) := by decide +kernel
theorem dX6_isRight_48 : decode cX6_isRight 48 = .ok (.aload_n 0, 1) := by decide +kernel
theorem dX6_isRight_49 : decode cX6_isRight 49 = .ok (.iload_n 1, 1) := by decide +kernel
theorem dX6_isRight_50 : decode cX6_isRight 50 = .ok (.invokevirtual 157, 3) := by decide +kernel
theorem dX6_isRight_53 : decode cX6_isRight 53 = .ok (.ireturn, 1) := by decide +kernel
theorem dX6_isRight_54 : decode cX6_isRight 54 = .ok (.aload_n 0, 1) := by decide +kernel
theorem dX6_isRight_55 : decode cX6_isRight 55 = .ok (.iload_n 1, 1) := by decide +kernel
theorem dX6_isRight_56 : decode cX6_isRight 56 = .ok (.invokevirtual 160, 3) := by decide +kernel
theorem dX6_isRight_59 : decode cX6_isRight 59 = .ok (.ireturn, 1) := by decide +kernel
set_option maxRecDepth 20000 in
theorem ggX6_right_X6_isRight : GoodIn wsX6_right wsX6_isRight := goodIn_r _ [6, 7, 8, 9, 10, 11, 5, 12, 13, 14, 15, 16, 17, 18, 19, 20, 21, 22, 23, 24, 25, 26, 27, 28, 29, 30, 31, 32, 33, 34, 35, 36, 37, 38, 39, 40, 41, 42, 43, 44, 45, 46, 47, 48, 49, 50, 51, 52, 53, 54, 55, 56, 57, 58, 59, 60, 61, 62, 63, 64, 65, 66, 67, 68, 69, 70, 71, 72, 73, 74, 75, 76, 77, 78, 79, 80, 81, 82, 83, 84, 85, 86, 87, 88, 89, 90, 91, 92, 93, 94, 95, 96, 97, 98, 99, 100, 101, 102, 103, 104, 105, 106, 107, 108, 109, 110, 111, 112, 113, 114, 115, 116, 117, 118, 119, 120, 121, 122, 123, 124, 125, 126, 127, 128, 129, 130, 131, 132, 133, 134] (by decide +kernel) (by decide +kernel)
set_option maxRecDepth 20000 in
theorem gX6_right_X6_isRight : GoodIn wsX6_right (wsV RX6 163 RX6 yX6_isRight wsX6_isRight) := goodIn_app (goodIn_of _ (by decide +kernel)) ggX6_right_X6_isRight
theorem dX6_right_0 : decode cX6_right 0 = .ok (.iconst 0, 1) := by decide +kernel
theorem dX6_right_1 : decode cX6_right 1 = .ok (.istore_n 1, 1) := by decide +kernel
theorem dX6_right_2 : decode cX6_right 2 = .ok (.iload_n 1, 1) := by decide +kernel
theorem dX6_right_3 : decode cX6_right 3 = .ok (.aload_n 0, 1) := by decide +kernel
theorem dX6_right_4 : decode cX6_right 4 = .ok (.getfield 107, 3) := by decide +kernel
theorem dX6_right_7 : decode cX6_right 7 = .ok (.if_icmp .ge 17, 3) := by decide +kernel
theorem dX6_right_10 : decode cX6_right 10 = .ok (.aload_n 0, 1) := by decide +kernel
theorem dX6_right_11 : decode cX6_right 11 = .ok (.iload_n 1, 1) := by decide +kernel
theorem dX6_right_12 : decode cX6_right 12 = .ok (.invokevirtual 163, 3) := by decide +kernel
theorem dX6_right_15 : decode cX6_right 15 = .ok (.ifCond .eq 9, 3) := by decide +kernel
theorem dX6_right_18 : decode cX6_right 18 = .ok (.iinc 1 1, 3) := by decide +kernel
theorem dX6_right_21 : decode cX6_right 21 = .ok (.goto (-19), 3) := by decide +kernel
theorem dX6_right_24 : decode cX6_right 24 = .ok (.iload_n 1, 1) := by decide +kernel
theorem dX6_right_25 : decode cX6_right 25 = .ok (.ireturn, 1) := by decide +kernel
set_option maxRecDepth 20000 in
theorem ggX6_check_X6_right : GoodIn wsX6_check wsX6_right := goodIn_r _ [6, 7, 8, 9, 10, 5, 11, 12, 13, 14, 15, 16, 17, 18, 19, 20, 21, 22, 23, 24, 25, 26, 27, 28, 29, 30, 31, 32, 33, 34, 35, 36, 37, 38, 39, 40, 41, 42, 43, 44, 45, 46, 47, 48, 49, 50, 51, 52, 53, 54, 55, 56, 57, 58, 59, 60, 61, 62, 63, 64, 65, 66, 67, 68, 69, 70, 71, 72, 73, 74, 75, 76, 77, 78, 79, 80, 81, 82, 83, 84, 85, 86, 87, 88, 89, 90, 91, 92, 93, 94, 95, 96, 97, 98, 99, 100, 101, 102, 103, 104, 105, 106, 107, 108, 109, 110, 111, 112, 113, 114, 115, 116, 117, 118, 119, 120, 121, 122, 123, 124, 125, 126, 127, 128, 129, 130, 131, 132, 133, 134, 135, 136, 137, 138, 139] (by decide +kernel) (by decide +kernel)
set_option maxRecDepth 20000 in
theorem gX6_check_X6_right : GoodIn wsX6_check (wsV RX6 166 RX6 yX6_right wsX6_right) := goodIn_app (goodIn_of _ (by decide +kernel)) ggX6_check_X6_right
theorem dX6_check_0 : decode cX6_check 0 = .ok (.aload_n 0, 1) := by decide +kernel
theorem dX6_check_1 : decode cX6_check 1 = .ok (.iconst 0, 1) := by decide +kernel
theorem dX6_check_2 : decode cX6_check 2 = .ok (.putfield 63, 3) := by decide +kernel
theorem dX6_check_5 : decode cX6_check 5 = .ok (.aload_n 0, 1) := by decide +kernel
theorem dX6_check_6 : decode cX6_check 6 = .ok (.invokevirtual 166, 3) := by decide +kernel
theorem dX6_check_9 : decode cX6_check 9 = .ok (.ireturn, 1) := by decide +kernel
set_option maxRecDepth 20000 in
theorem ggX6_proves_X6_right : GoodIn wsX6_proves wsX6_right := goodIn_r _ [9, 2, 10, 11, 12, 8, 13, 4, 14, 15, 16, 17, 18, 19, 20, 21, 22, 23, 3, 24, 25, 26, 27, 28, 29, 30, 31, 32, 33, 34, 35, 36, 37, 38, 39, 40, 41, 42, 43, 44, 45, 46, 47, 48, 49, 50, 51, 52, 53, 54, 55, 56, 57, 58, 59, 60, 61, 62, 63, 64, 65, 66, 67, 68, 69, 70, 71, 72, 73, 74, 75, 76, 77, 78, 79, 80, 81, 82, 83, 84, 85, 86, 87, 88, 89, 90, 91, 92, 93, 94, 95, 96, 97, 98, 99, 100, 101, 102, 103, 104, 105, 106, 107, 108, 109, 110, 111, 112, 113, 114, 115, 116, 117, 118, 119, 120, 121, 122, 123, 124, 125, 126, 127, 128, 129, 130, 131, 132, 133, 134, 135, 136, 137, 138, 139] (by decide +kernel) (by decide +kernel)
set_option maxRecDepth 20000 in
theorem gX6_proves_X6_right : GoodIn wsX6_proves (wsV RX6 166 RX6 yX6_right wsX6_right) := goodIn_app (goodIn_of _ (by decide +kernel)) ggX6_proves_X6_right
theorem dX6_proves_0 : decode cX6_proves 0 = .ok (.aload_n 0, 1) := by decide +kernel
theorem dX6_proves_1 : decode cX6_proves 1 = .ok (.iconst 0, 1) := by decide +kernel
theorem dX6_proves_2 : decode cX6_proves 2 = .ok (.putfield 63, 3) := by decide +kernel
theorem dX6_proves_5 : decode cX6_proves 5 = .ok (.aload_n 0, 1) := by decide +kernel
theorem dX6_proves_6 : decode cX6_proves 6 = .ok (.getfield 107, 3) := by decide +kernel
theorem dX6_proves_9 : decode cX6_proves 9 = .ok (.ifCond .eq 28, 3) := by decide +kernel
theorem dX6_proves_12 : decode cX6_proves 12 = .ok (.aload_n 0, 1) := by decide +kernel
theorem dX6_proves_13 : decode cX6_proves 13 = .ok (.getfield 31, 3) := by decide +kernel
theorem dX6_proves_16 : decode cX6_proves 16 = .ok (.aload_n 0, 1) := by decide +kernel
theorem dX6_proves_17 : decode cX6_proves 17 = .ok (.getfield 107, 3) := by decide +kernel
theorem dX6_proves_20 : decode cX6_proves 20 = .ok (.iconst 1, 1) := by decide +kernel
theorem dX6_proves_21 : decode cX6_proves 21 = .ok (.isub, 1) := by decide +kernel
theorem dX6_proves_22 : decode cX6_proves 22 = .ok (.iaload, 1) := by decide +kernel
theorem dX6_proves_23 : decode cX6_proves 23 = .ok (.ifCond .gt 14, 3) := by decide +kernel
theorem dX6_proves_26 : decode cX6_proves 26 = .ok (.aload_n 0, 1) := by decide +kernel
theorem dX6_proves_27 : decode cX6_proves 27 = .ok (.invokevirtual 166, 3) := by decide +kernel
theorem dX6_proves_30 : decode cX6_proves 30 = .ok (.aload_n 0, 1) := by decide +kernel
theorem dX6_proves_31 : decode cX6_proves 31 = .ok (.getfield 107, 3) := by decide +kernel
theorem dX6_proves_34 : decode cX6_proves 34 = .ok (.if_icmp .ge 5, 3) := by decide +kernel
theorem dX6_proves_37 : decode cX6_proves 37 = .ok (.iconst 0, 1) := by decide +kernel
theorem dX6_proves_38 : decode cX6_proves 38 = .ok (.ireturn, 1) := by decide +kernel
theorem dX6_proves_39 : decode cX6_proves 39 = .ok (.iconst 0, 1) := by decide +kernel
theorem dX6_proves_40 : decode cX6_proves 40 = .ok (.istore_n 1, 1) := by decide +kernel
theorem dX6_proves_41 : decode cX6_proves 41 = .ok (.iload_n 1, 1) := by decide +kernel
theorem dX6_proves_42 : decode cX6_proves 42 = .ok (.aload_n 0, 1) := by decide +kernel
theorem dX6_proves_43 : decode cX6_proves 43 = .ok (.getfield 107, 3) := by decide +kernel
theorem dX6_proves_46 : decode cX6_proves 46 = .ok (.if_icmp .ge 21, 3) := by decide +kernel
theorem dX6_proves_49 : decode cX6_proves 49 = .ok (.aload_n 0, 1) := by decide +kernel
theorem dX6_proves_50 : decode cX6_proves 50 = .ok (.getfield 25, 3) := by decide +kernel
theorem dX6_proves_53 : decode cX6_proves 53 = .ok (.iload_n 1, 1) := by decide +kernel
theorem dX6_proves_54 : decode cX6_proves 54 = .ok (.iaload, 1) := by decide +kernel
theorem dX6_proves_55 : decode cX6_proves 55 = .ok (.iconst 3, 1) := by decide +kernel
theorem dX6_proves_56 : decode cX6_proves 56 = .ok (.if_icmp .ne 5, 3) := by decide +kernel
theorem dX6_proves_59 : decode cX6_proves 59 = .ok (.iconst 2, 1) := by decide +kernel
theorem dX6_proves_60 : decode cX6_proves 60 = .ok (.ireturn, 1) := by decide +kernel
theorem dX6_proves_61 : decode cX6_proves 61 = .ok (.iinc 1 1, 3) := by decide +kernel
theorem dX6_proves_64 : decode cX6_proves 64 = .ok (.goto (-23), 3) := by decide +kernel
theorem dX6_proves_67 : decode cX6_proves 67 = .ok (.iconst 1, 1) := by decide +kernel
theorem dX6_proves_68 : decode cX6_proves 68 = .ok (.ireturn, 1) := by decide +kernel
set_option maxRecDepth 20000 in
theorem ggX6_tell_X6_throwsIf : GoodIn wsX6_tell wsX6_throwsIf := goodIn_r _ [10, 11, 12, 13, 14, 15, 16, 17, 18, 19, 20, 21, 22, 23, 24, 25, 26, 27, 28, 29, 30, 31, 32, 33, 34] (by decide +kernel) (by decide +kernel)
set_option maxRecDepth 20000 in
theorem gX6_tell_X6_throwsIf : GoodIn wsX6_tell (wsV RX6 80 RX6 yX6_throwsIf wsX6_throwsIf) := goodIn_app (goodIn_of _ (by decide +kernel)) ggX6_tell_X6_throwsIf
theorem dX6_tell_0 : decode cX6_tell 0 = .ok (.aload_n 0, 1) := by decide +kernel
theorem dX6_tell_1 : decode cX6_tell 1 = .ok (.iconst 1, 1) := by decide +kernel
theorem dX6_tell_2 : decode cX6_tell 2 = .ok (.iload_n 1, 1) := by decide +kernel
theorem dX6_tell_3 : decode cX6_tell 3 = .ok (.ifCond .lt 11, 3) := by decide +kernel
theorem dX6_tell_6 : decode cX6_tell 6 = .ok (.iload_n 1, 1) := by decide +kernel
theorem dX6_tell_7 : decode cX6_tell 7 = .ok (.aload_n 0, 1) := by decide +kernel
theorem dX6_tell_8 : decode cX6_tell 8 = .ok (.getfield 107, 3) := by decide +kernel
theorem dX6_tell_11 : decode cX6_tell 11 = .ok (.if_icmp .lt 7, 3) := by decide +kernel
theorem dX6_tell_14 : decode cX6_tell 14 = .ok (.iconst 1, 1) := by decide +kernel
theorem dX6_tell_15 : decode cX6_tell 15 = .ok (.goto 4, 3) := by decide +kernel
theorem dX6_tell_18 : decode cX6_tell 18 = .ok (.iconst 0, 1) := by decide +kernel
theorem dX6_tell_19 : decode cX6_tell 19 = .ok (.invokevirtual 80, 3) := by decide +kernel
theorem dX6_tell_22 : decode cX6_tell 22 = .ok (.ifCond .eq 5, 3) := by decide +kernel
theorem dX6_tell_25 : decode cX6_tell 25 = .ok (.iconst 0, 1) := by decide +kernel
theorem dX6_tell_26 : decode cX6_tell 26 = .ok (.ireturn, 1) := by decide +kernel
theorem dX6_tell_27 : decode cX6_tell 27 = .ok (.iload_n 2, 1) := by decide +kernel
theorem dX6_tell_28 : decode cX6_tell 28 = .ok (.iconst 3, 1) := by decide +kernel
theorem dX6_tell_29 : decode cX6_tell 29 = .ok (.if_icmp .ge 46, 3) := by decide +kernel
theorem dX6_tell_32 : decode cX6_tell 32 = .ok (.iload_n 2, 1) := by decide +kernel
theorem dX6_tell_33 : decode cX6_tell 33 = .ok (.ifCond .ne 12, 3) := by decide +kernel
theorem dX6_tell_36 : decode cX6_tell 36 = .ok (.aload_n 0, 1) := by decide +kernel
theorem dX6_tell_37 : decode cX6_tell 37 = .ok (.getfield 25, 3) := by decide +kernel
theorem dX6_tell_40 : decode cX6_tell 40 = .ok (.iload_n 1, 1) := by decide +kernel
theorem dX6_tell_41 : decode cX6_tell 41 = .ok (.iaload, 1) := by decide +kernel
theorem dX6_tell_42 : decode cX6_tell 42 = .ok (.goto 32, 3) := by decide +kernel
theorem dX6_tell_45 : decode cX6_tell 45 = .ok (.iload_n 2, 1) := by decide +kernel
theorem dX6_tell_46 : decode cX6_tell 46 = .ok (.iconst 1, 1) := by decide +kernel
theorem dX6_tell_47 : decode cX6_tell 47 = .ok (.if_icmp .ne 12, 3) := by decide +kernel
theorem dX6_tell_50 : decode cX6_tell 50 = .ok (.aload_n 0, 1) := by decide +kernel
theorem dX6_tell_51 : decode cX6_tell 51 = .ok (.getfield 28, 3) := by decide +kernel
theorem dX6_tell_54 : decode cX6_tell 54 = .ok (.iload_n 1, 1) := by decide +kernel
theorem dX6_tell_55 : decode cX6_tell 55 = .ok (.iaload, 1) := by decide +kernel
theorem dX6_tell_56 : decode cX6_tell 56 = .ok (.goto 18, 3) := by decide +kernel
theorem dX6_tell_59 : decode cX6_tell 59 = .ok (.iload_n 2, 1) := by decide +kernel
theorem dX6_tell_60 : decode cX6_tell 60 = .ok (.iconst 2, 1) := by decide +kernel
theorem dX6_tell_61 : decode cX6_tell 61 = .ok (.if_icmp .ne 12, 3) := by decide +kernel
theorem dX6_tell_64 : decode cX6_tell 64 = .ok (.aload_n 0, 1) := by decide +kernel
theorem dX6_tell_65 : decode cX6_tell 65 = .ok (.getfield 31, 3) := by decide +kernel
theorem dX6_tell_68 : decode cX6_tell 68 = .ok (.iload_n 1, 1) := by decide +kernel
theorem dX6_tell_69 : decode cX6_tell 69 = .ok (.iaload, 1) := by decide +kernel
theorem dX6_tell_70 : decode cX6_tell 70 = .ok (.goto 4, 3) := by decide +kernel
theorem dX6_tell_73 : decode cX6_tell 73 = .ok (.iconst (-1), 1) := by decide +kernel
theorem dX6_tell_74 : decode cX6_tell 74 = .ok (.ireturn, 1) := by decide +kernel
theorem dX6_tell_75 : decode cX6_tell 75 = .ok (.iload_n 2, 1) := by decide +kernel
theorem dX6_tell_76 : decode cX6_tell 76 = .ok (.iconst 3, 1) := by decide +kernel
theorem dX6_tell_77 : decode cX6_tell 77 = .ok (.isub, 1) := by decide +kernel
theorem dX6_tell_78 : decode cX6_tell 78 = .ok (.aload_n 0, 1) := by decide +kernel
theorem dX6_tell_79 : decode cX6_tell 79 = .ok (.getfield 31, 3) := by decide +kernel
theorem dX6_tell_82 : decode cX6_tell 82 = .ok (.iload_n 1, 1) := by decide +kernel
theorem dX6_tell_83 : decode cX6_tell 83 = .ok (.iaload, 1) := by decide +kernel
theorem dX6_tell_84 : decode cX6_tell 84 = .ok (.if_icmp .ge 19, 3) := by decide +kernel
theorem dX6_tell_87 : decode cX6_tell 87 = .ok (.aload_n 0, 1) := by decide +kernel
theorem dX6_tell_88 : decode cX6_tell 88 = .ok (.getfield 34, 3) := by decide +kernel
theorem dX6_tell_91 : decode cX6_tell 91 = .ok (.bipush 16, 2) := by decide +kernel
theorem dX6_tell_93 : decode cX6_tell 93 = .ok (.iload_n 1, 1) := by decide +kernel
theorem dX6_tell_94 : decode cX6_tell 94 = .ok (.imul, 1) := by decide +kernel
theorem dX6_tell_95 : decode cX6_tell 95 = .ok (.iload_n 2, 1) := by decide +kernel
theorem dX6_tell_96 : decode cX6_tell 96 = .ok (.iadd, 1) := by decide +kernel
theorem dX6_tell_97 : decode cX6_tell 97 = .ok (.iconst 3, 1) := by decide +kernel
theorem dX6_tell_98 : decode cX6_tell 98 = .ok (.isub, 1) := by decide +kernel
theorem dX6_tell_99 : decode cX6_tell 99 = .ok (.iaload, 1) := by decide +kernel
theorem dX6_tell_100 : decode cX6_tell 100 = .ok (.goto 4, 3) := by decide +kernel
theorem dX6_tell_103 : decode cX6_tell 103 = .ok (.iconst (-1), 1) := by decide +kernel
theorem dX6_tell_104 : decode cX6_tell 104 = .ok (.ireturn, 1) := by decide +kernel
set_option maxRecDepth 20000 in
theorem ggX6_may_X6_isCell : GoodIn wsX6_may wsX6_isCell := goodIn_r _ [8, 9, 10, 11, 7, 12, 13, 14, 47, 48, 49, 50, 51, 52, 53, 54, 55, 56, 57, 58, 59, 60, 61, 62, 63, 64, 65, 66, 67, 68, 69] (by decide +kernel) (by decide +kernel)
set_option maxRecDepth 20000 in
theorem gX6_may_X6_isCell : GoodIn wsX6_may (wsV RX6 76 RX6 yX6_isCell wsX6_isCell) := goodIn_app (goodIn_of _ (by decide +kernel)) ggX6_may_X6_isCell
set_option maxRecDepth 20000 in
theorem ggX6_may_X6_throwsIf : GoodIn wsX6_may wsX6_throwsIf := goodIn_r _ [18, 19, 47, 48, 49, 50, 51, 52, 53, 54, 55, 56, 57, 58, 59, 60, 61, 62, 63, 64, 65, 66, 67, 68, 69] (by decide +kernel) (by decide +kernel)
set_option maxRecDepth 20000 in
theorem gX6_may_X6_throwsIf : GoodIn wsX6_may (wsV RX6 80 RX6 yX6_throwsIf wsX6_throwsIf) := goodIn_app (goodIn_of _ (by decide +kernel)) ggX6_may_X6_throwsIf
set_option maxRecDepth 20000 in
theorem ggX6_may_X6_all : GoodIn wsX6_may wsX6_all := goodIn_r _ [23, 2, 3, 24, 47, 48, 49, 50, 51, 52, 53, 54, 55, 56, 57, 58, 59, 60, 61, 62, 63, 64, 65, 66, 67, 68, 69] (by decide +kernel) (by decide +kernel)
set_option maxRecDepth 20000 in
theorem gX6_may_X6_all : GoodIn wsX6_may (wsV RX6 145 RX6 yX6_all wsX6_all) := goodIn_app (goodIn_of _ (by decide +kernel)) ggX6_may_X6_all
set_option maxRecDepth 20000 in
theorem ggX6_may_X6_units : GoodIn wsX6_may wsX6_units := goodIn_r _ [28, 2, 29, 30, 31, 32, 33, 7, 34, 3, 35, 36, 37, 38, 24, 39, 40, 41, 42, 43, 44, 45, 46, 47, 48, 49, 50, 51, 52, 53, 54, 55, 56, 57, 58, 59, 60, 61, 62, 63, 64, 65, 66, 67, 68, 69] (by decide +kernel) (by decide +kernel)
set_option maxRecDepth 20000 in
theorem gX6_may_X6_units : GoodIn wsX6_may (wsV RX6 148 RX6 yX6_units wsX6_units) := goodIn_app (goodIn_of _ (by decide +kernel)) ggX6_may_X6_units
theorem dX6_may_0 : decode cX6_may 0 = .ok (.aload_n 0, 1) := by decide +kernel
theorem dX6_may_1 : decode cX6_may 1 = .ok (.iconst 1, 1) := by decide +kernel
theorem dX6_may_2 : decode cX6_may 2 = .ok (.aload_n 0, 1) := by decide +kernel
theorem dX6_may_3 : decode cX6_may 3 = .ok (.iload_n 1, 1) := by decide +kernel
theorem dX6_may_4 : decode cX6_may 4 = .ok (.invokevirtual 76, 3) := by decide +kernel
theorem dX6_may_7 : decode cX6_may 7 = .ok (.ifCond .ne 7, 3) := by decide +kernel
theorem dX6_may_10 : decode cX6_may 10 = .ok (.iconst 1, 1) := by decide +kernel
theorem dX6_may_11 : decode cX6_may 11 = .ok (.goto 4, 3) := by decide +kernel
theorem dX6_may_14 : decode cX6_may 14 = .ok (.iconst 0, 1) := by decide +kernel
theorem dX6_may_15 : decode cX6_may 15 = .ok (.invokevirtual 80, 3) := by decide +kernel
theorem dX6_may_18 : decode cX6_may 18 = .ok (.ifCond .eq 5, 3) := by decide +kernel
theorem dX6_may_21 : decode cX6_may 21 = .ok (.iconst 0, 1) := by decide +kernel
theorem dX6_may_22 : decode cX6_may 22 = .ok (.ireturn, 1) := by decide +kernel
theorem dX6_may_23 : decode cX6_may 23 = .ok (.aload_n 0, 1) := by decide +kernel
theorem dX6_may_24 : decode cX6_may 24 = .ok (.invokevirtual 145, 3) := by decide +kernel
theorem dX6_may_27 : decode cX6_may 27 = .ok (.aload_n 0, 1) := by decide +kernel
theorem dX6_may_28 : decode cX6_may 28 = .ok (.aload_n 0, 1) := by decide +kernel
theorem dX6_may_29 : decode cX6_may 29 = .ok (.getfield 107, 3) := by decide +kernel
theorem dX6_may_32 : decode cX6_may 32 = .ok (.invokevirtual 148, 3) := by decide +kernel
theorem dX6_may_35 : decode cX6_may 35 = .ok (.aload_n 0, 1) := by decide +kernel
theorem dX6_may_36 : decode cX6_may 36 = .ok (.getfield 134, 3) := by decide +kernel
theorem dX6_may_39 : decode cX6_may 39 = .ok (.ifCond .eq 7, 3) := by decide +kernel
theorem dX6_may_42 : decode cX6_may 42 = .ok (.iconst 0, 1) := by decide +kernel
theorem dX6_may_43 : decode cX6_may 43 = .ok (.goto 9, 3) := by decide +kernel
theorem dX6_may_46 : decode cX6_may 46 = .ok (.aload_n 0, 1) := by decide +kernel
theorem dX6_may_47 : decode cX6_may 47 = .ok (.getfield 37, 3) := by decide +kernel
theorem dX6_may_50 : decode cX6_may 50 = .ok (.iload_n 1, 1) := by decide +kernel
theorem dX6_may_51 : decode cX6_may 51 = .ok (.iaload, 1) := by decide +kernel
theorem dX6_may_52 : decode cX6_may 52 = .ok (.ireturn, 1) := by decide +kernel
theorem dX6_unit_0 : decode cX6_unit 0 = .ok (.aload_n 0, 1) := by decide +kernel
theorem dX6_unit_1 : decode cX6_unit 1 = .ok (.iconst 0, 1) := by decide +kernel
theorem dX6_unit_2 : decode cX6_unit 2 = .ok (.putfield 63, 3) := by decide +kernel
theorem dX6_unit_5 : decode cX6_unit 5 = .ok (.iload_n 1, 1) := by decide +kernel
theorem dX6_unit_6 : decode cX6_unit 6 = .ok (.ifCond .lt 20, 3) := by decide +kernel
theorem dX6_unit_9 : decode cX6_unit 9 = .ok (.iload_n 1, 1) := by decide +kernel
theorem dX6_unit_10 : decode cX6_unit 10 = .ok (.sipush 255, 3) := by decide +kernel
theorem dX6_unit_13 : decode cX6_unit 13 = .ok (.if_icmp .gt 13, 3) := by decide +kernel
theorem dX6_unit_16 : decode cX6_unit 16 = .ok (.aload_n 0, 1) := by decide +kernel
theorem dX6_unit_17 : decode cX6_unit 17 = .ok (.getfield 169, 3) := by decide +kernel
theorem dX6_unit_20 : decode cX6_unit 20 = .ok (.sipush 300, 3) := by decide +kernel
theorem dX6_unit_23 : decode cX6_unit 23 = .ok (.if_icmp .ne 5, 3) := by decide +kernel
theorem dX6_unit_26 : decode cX6_unit 26 = .ok (.iconst 0, 1) := by decide +kernel
theorem dX6_unit_27 : decode cX6_unit 27 = .ok (.ireturn, 1) := by decide +kernel
theorem dX6_unit_28 : decode cX6_unit 28 = .ok (.aload_n 0, 1) := by decide +kernel
theorem dX6_unit_29 : decode cX6_unit 29 = .ok (.getfield 46, 3) := by decide +kernel
theorem dX6_unit_32 : decode cX6_unit 32 = .ok (.aload_n 0, 1) := by decide +kernel
theorem dX6_unit_33 : decode cX6_unit 33 = .ok (.getfield 169, 3) := by decide +kernel
theorem dX6_unit_36 : decode cX6_unit 36 = .ok (.iload_n 1, 1) := by decide +kernel
theorem dX6_unit_37 : decode cX6_unit 37 = .ok (.iastore, 1) := by decide +kernel
theorem dX6_unit_38 : decode cX6_unit 38 = .ok (.aload_n 0, 1) := by decide +kernel
theorem dX6_unit_39 : decode cX6_unit 39 = .ok (.dup, 1) := by decide +kernel
theorem dX6_unit_40 : decode cX6_unit 40 = .ok (.getfield 169, 3) := by decide +kernel
theorem dX6_unit_43 : decode cX6_unit 43 = .ok (.iconst 1, 1) := by decide +kernel
theorem dX6_unit_44 : decode cX6_unit 44 = .ok (.iadd, 1) := by decide +kernel
theorem dX6_unit_45 : decode cX6_unit 45 = .ok (.putfield 169, 3) := by decide +kernel
theorem dX6_unit_48 : decode cX6_unit 48 = .ok (.iconst 1, 1) := by decide +kernel
theorem dX6_unit_49 : decode cX6_unit 49 = .ok (.ireturn, 1) := by decide +kernel
theorem dX6_look_0 : decode cX6_look 0 = .ok (.aload_n 0, 1) := by decide +kernel
theorem dX6_look_1 : decode cX6_look 1 = .ok (.getfield 172, 3) := by decide +kernel
theorem dX6_look_4 : decode cX6_look 4 = .ok (.aload_n 0, 1) := by decide +kernel
theorem dX6_look_5 : decode cX6_look 5 = .ok (.getfield 169, 3) := by decide +kernel
theorem dX6_look_8 : decode cX6_look 8 = .ok (.if_icmp .ge 15, 3) := by decide +kernel
theorem dX6_look_11 : decode cX6_look 11 = .ok (.aload_n 0, 1) := by decide +kernel
theorem dX6_look_12 : decode cX6_look 12 = .ok (.getfield 46, 3) := by decide +kernel
theorem dX6_look_15 : decode cX6_look 15 = .ok (.aload_n 0, 1) := by decide +kernel
theorem dX6_look_16 : decode cX6_look 16 = .ok (.getfield 172, 3) := by decide +kernel
theorem dX6_look_19 : decode cX6_look 19 = .ok (.iaload, 1) := by decide +kernel
theorem dX6_look_20 : decode cX6_look 20 = .ok (.goto 4, 3) := by decide +kernel
theorem dX6_look_23 : decode cX6_look 23 = .ok (.iconst (-1), 1) := by decide +kernel
theorem dX6_look_24 : decode cX6_look 24 = .ok (.ireturn, 1) := by decide +kernel
set_option maxRecDepth 20000 in
theorem ggX6_isDigit_X6_look : GoodIn wsX6_isDigit wsX6_look := goodIn_r _ [5, 6, 7, 8, 9, 10, 11, 12, 13, 14, 15, 16, 17, 18, 19, 20, 21, 22, 23, 24, 25, 26, 27, 28, 29, 30, 31] (by decide +kernel) (by decide +kernel)
set_option maxRecDepth 20000 in
theorem gX6_isDigit_X6_look : GoodIn wsX6_isDigit (wsV RX6 175 RX6 yX6_look wsX6_look) := goodIn_app (goodIn_of _ (by decide +kernel)) ggX6_isDigit_X6_look
theorem dX6_isDigit_0 : decode cX6_isDigit 0 = .ok (.aload_n 0, 1) := by decide +kernel
theorem dX6_isDigit_1 : decode cX6_isDigit 1 = .ok (.invokevirtual 175, 3) := by decide +kernel
theorem dX6_isDigit_4 : decode cX6_isDigit 4 = .ok (.bipush 48, 2) := by decide +kernel
theorem dX6_isDigit_6 : decode cX6_isDigit 6 = .ok (.if_icmp .lt 16, 3) := by decide +kernel
theorem dX6_isDigit_9 : decode cX6_isDigit 9 = .ok (.aload_n 0, 1) := by decide +kernel
theorem dX6_isDigit_10 : decode cX6_isDigit 10 = .ok (.invokevirtual 175, 3) := by decide +kernel
theorem dX6_isDigit_13 : decode cX6_isDigit 13 = .ok (.bipush 57, 2) := by decide +kernel
theorem dX6_isDigit_15 : decode cX6_isDigit 15 = .ok (.if_icmp .gt 7, 3) := by decide +kernel
theorem dX6_isDigit_18 : decode cX6_isDigit 18 = .ok (.iconst 1, 1) := by decide +kernel
theorem dX6_isDigit_19 : decode cX6_isDigit 19 = .ok (.goto 4, 3) := by decide +kernel
theorem dX6_isDigit_22 : decode cX6_isDigit 22 = .ok (.iconst 0, 1) := by decide +kernel
theorem dX6_isDigit_23 : decode cX6_isDigit 23 = .ok (.ireturn, 1) := by decide +kernel
theorem dX6_wrong_0 : decode cX6_wrong 0 = .ok (.aload_n 0, 1) := by decide +kernel
theorem dX6_wrong_1 : decode cX6_wrong 1 = .ok (.aload_n 0, 1) := by decide +kernel
theorem dX6_wrong_2 : decode cX6_wrong 2 = .ok (.getfield 178, 3) := by decide +kernel
theorem dX6_wrong_5 : decode cX6_wrong 5 = .ok (.ifCond .ge 7, 3) := by decide +kernel
theorem dX6_wrong_8 : decode cX6_wrong 8 = .ok (.iload_n 1, 1) := by decide +kernel
theorem dX6_wrong_9 : decode cX6_wrong 9 = .ok (.goto 7, 3) := by decide +kernel
theorem dX6_wrong_12 : decode cX6_wrong 12 = .ok (.aload_n 0, 1) := by decide +kernel
theorem dX6_wrong_13 : decode cX6_wrong 13 = .ok (.getfield 178, 3) := by decide +kernel
theorem dX6_wrong_16 : decode cX6_wrong 16 = .ok (.putfield 178, 3) := by decide +kernel
theorem dX6_wrong_19 : decode cX6_wrong 19 = .ok (.return_, 1) := by decide +kernel
set_option maxRecDepth 20000 in
theorem ggX6_number_X6_isDigit : GoodIn wsX6_number wsX6_isDigit := goodIn_r _ [6, 7, 8, 9, 5, 10, 1, 11, 12, 18, 19, 20, 21, 22, 23, 24, 25, 26, 27, 28, 29, 30, 31, 32, 33, 34, 35, 36, 37, 38, 39, 40] (by decide +kernel) (by decide +kernel)
set_option maxRecDepth 20000 in
theorem gX6_number_X6_isDigit : GoodIn wsX6_number (wsV RX6 181 RX6 yX6_isDigit wsX6_isDigit) := goodIn_app (goodIn_of _ (by decide +kernel)) ggX6_number_X6_isDigit
set_option maxRecDepth 20000 in
theorem ggX6_number_X6_wrong : GoodIn wsX6_number wsX6_wrong := goodIn_r _ [16, 17, 18, 19, 20, 21, 22, 23, 24, 25, 26, 27, 28, 29, 30, 31, 32, 33, 34, 35, 36, 37, 38, 39, 40] (by decide +kernel) (by decide +kernel)
set_option maxRecDepth 20000 in
theorem gX6_number_X6_wrong : GoodIn wsX6_number (wsV RX6 185 RX6 yX6_wrong wsX6_wrong) := goodIn_app (goodIn_of _ (by decide +kernel)) ggX6_number_X6_wrong
set_option maxRecDepth 20000 in
theorem ggX6_number_X6_look : GoodIn wsX6_number wsX6_look := goodIn_r _ [10, 1, 11, 12, 18, 19, 20, 21, 22, 23, 24, 25, 26, 27, 28, 29, 30, 31, 32, 33, 34, 35, 36, 37, 38, 39, 40] (by decide +kernel) (by decide +kernel)
set_option maxRecDepth 20000 in
theorem gX6_number_X6_look : GoodIn wsX6_number (wsV RX6 175 RX6 yX6_look wsX6_look) := goodIn_app (goodIn_of _ (by decide +kernel)) ggX6_number_X6_look
theorem dX6_number_0 : decode cX6_number 0 = .ok (.aload_n 0, 1) := by decide +kernel
theorem dX6_number_1 : decode cX6_number 1 = .ok (.invokevirtual 181, 3) := by decide +kernel
theorem dX6_number_4 : decode cX6_number 4 = .ok (.ifCond .ne 13, 3) := by decide +kernel
theorem dX6_number_7 : decode cX6_number 7 = .ok (.aload_n 0, 1) := by decide +kernel
theorem dX6_number_8 : decode cX6_number 8 = .ok (.aload_n 0, 1) := by decide +kernel
theorem dX6_number_9 : decode cX6_number 9 = .ok (.getfield 172, 3) := by decide +kernel
theorem dX6_number_12 : decode cX6_number 12 = .ok (.invokevirtual 185, 3) := by decide +kernel
theorem dX6_number_15 : decode cX6_number 15 = .ok (.iconst 0, 1) := by decide +kernel
theorem dX6_number_16 : decode cX6_number 16 = .ok (.ireturn, 1) := by decide +kernel
theorem dX6_number_17 : decode cX6_number 17 = .ok (.aload_n 0, 1) := by decide +kernel
theorem dX6_number_18 : decode cX6_number 18 = .ok (.invokevirtual 175, 3) := by decide +kernel
theorem dX6_number_21 : decode cX6_number 21 = .ok (.bipush 48, 2) := by decide +kernel
theorem dX6_number_23 : decode cX6_number 23 = .ok (.isub, 1) := by decide +kernel
theorem dX6_number_24 : decode cX6_number 24 = .ok (.istore_n 1, 1) := by decide +kernel
theorem dX6_number_25 : decode cX6_number 25 = .ok (.aload_n 0, 1) := by decide +kernel
theorem dX6_number_26 : decode cX6_number 26 = .ok (.dup, 1) := by decide +kernel
theorem dX6_number_27 : decode cX6_number 27 = .ok (.getfield 172, 3) := by decide +kernel
theorem dX6_number_30 : decode cX6_number 30 = .ok (.iconst 1, 1) := by decide +kernel
theorem dX6_number_31 : decode cX6_number 31 = .ok (.iadd, 1) := by decide +kernel
theorem dX6_number_32 : decode cX6_number 32 = .ok (.putfield 172, 3) := by decide +kernel
theorem dX6_number_35 : decode cX6_number 35 = .ok (.iload_n 1, 1) := by decide +kernel
theorem dX6_number_36 : decode cX6_number 36 = .ok (.ifCond .le 33, 3) := by decide +kernel
theorem dX6_number_39 : decode cX6_number 39 = .ok (.aload_n 0, 1) := by decide +kernel
theorem dX6_number_40 : decode cX6_number 40 = .ok (.invokevirtual 181, 3) := by decide +kernel
theorem dX6_number_43 : decode cX6_number 43 = .ok (.ifCond .eq 26, 3) := by decide +kernel
theorem dX6_number_46 : decode cX6_number 46 = .ok (.bipush 10, 2) := by decide +kernel
theorem dX6_number_48 : decode cX6_number 48 = .ok (.iload_n 1, 1) := by decide +kernel
theorem dX6_number_49 : decode cX6_number 49 = .ok (.imul, 1) := by decide +kernel
theorem dX6_number_50 : decode cX6_number 50 = .ok (.aload_n 0, 1) := by decide +kernel
theorem dX6_number_51 : decode cX6_number 51 = .ok (.invokevirtual 175, 3) := by decide +kernel
theorem dX6_number_54 : decode cX6_number 54 = .ok (.iadd, 1) := by decide +kernel
theorem dX6_number_55 : decode cX6_number 55 = .ok (.bipush 48, 2) := by decide +kernel
theorem dX6_number_57 : decode cX6_number 57 = .ok (.isub, 1) := by decide +kernel
theorem dX6_number_58 : decode cX6_number 58 = .ok (.istore_n 1, 1) := by decide +kernel
theorem dX6_number_59 : decode cX6_number 59 = .ok (.aload_n 0, 1) := by decide +kernel
theorem dX6_number_60 : decode cX6_number 60 = .ok (.dup, 1) := by decide +kernel
theorem dX6_number_61 : decode cX6_number 61 = .ok (.getfield 172, 3) := by decide +kernel
theorem dX6_number_64 : decode cX6_number 64 = .ok (.iconst 1, 1) := by decide +kernel
theorem dX6_number_65 : decode cX6_number 65 = .ok (.iadd, 1) := by decide +kernel
theorem dX6_number_66 : decode cX6_number 66 = .ok (.putfield 172, 3) := by decide +kernel
theorem dX6_number_69 : decode cX6_number 69 = .ok (.iload_n 1, 1) := by decide +kernel
theorem dX6_number_70 : decode cX6_number 70 = .ok (.ireturn, 1) := by decide +kernel
set_option maxRecDepth 20000 in
theorem ggX6_expect_X6_look : GoodIn wsX6_expect wsX6_look := goodIn_r _ [7, 2, 8, 9, 14, 15, 16, 17, 18, 19, 20, 21, 22, 23, 24, 25, 26, 27, 28, 29, 30, 31, 32, 33, 34, 35, 36] (by decide +kernel) (by decide +kernel)
set_option maxRecDepth 20000 in
theorem gX6_expect_X6_look : GoodIn wsX6_expect (wsV RX6 175 RX6 yX6_look wsX6_look) := goodIn_app (goodIn_of _ (by decide +kernel)) ggX6_expect_X6_look
set_option maxRecDepth 20000 in
theorem ggX6_expect_X6_wrong : GoodIn wsX6_expect wsX6_wrong := goodIn_r _ [13, 1, 14, 15, 16, 17, 18, 19, 20, 21, 22, 23, 24, 25, 26, 27, 28, 29, 30, 31, 32, 33, 34, 35, 36] (by decide +kernel) (by decide +kernel)
set_option maxRecDepth 20000 in
theorem gX6_expect_X6_wrong : GoodIn wsX6_expect (wsV RX6 185 RX6 yX6_wrong wsX6_wrong) := goodIn_app (goodIn_of _ (by decide +kernel)) ggX6_expect_X6_wrong
theorem dX6_expect_0 : decode cX6_expect 0 = .ok (.aload_n 0, 1) := by decide +kernel
theorem dX6_expect_1 : decode cX6_expect 1 = .ok (.getfield 178, 3) := by decide +kernel
theorem dX6_expect_4 : decode cX6_expect 4 = .ok (.ifCond .lt 4, 3) := by decide +kernel
theorem dX6_expect_7 : decode cX6_expect 7 = .ok (.return_, 1) := by decide +kernel
theorem dX6_expect_8 : decode cX6_expect 8 = .ok (.aload_n 0, 1) := by decide +kernel
theorem dX6_expect_9 : decode cX6_expect 9 = .ok (.invokevirtual 175, 3) := by decide +kernel
theorem dX6_expect_12 : decode cX6_expect 12 = .ok (.iload_n 1, 1) := by decide +kernel
theorem dX6_expect_13 : decode cX6_expect 13 = .ok (.if_icmp .eq 11, 3) := by decide +kernel
theorem dX6_expect_16 : decode cX6_expect 16 = .ok (.aload_n 0, 1) := by decide +kernel
theorem dX6_expect_17 : decode cX6_expect 17 = .ok (.aload_n 0, 1) := by decide +kernel
theorem dX6_expect_18 : decode cX6_expect 18 = .ok (.getfield 172, 3) := by decide +kernel
theorem dX6_expect_21 : decode cX6_expect 21 = .ok (.invokevirtual 185, 3) := by decide +kernel
theorem dX6_expect_24 : decode cX6_expect 24 = .ok (.aload_n 0, 1) := by decide +kernel
theorem dX6_expect_25 : decode cX6_expect 25 = .ok (.dup, 1) := by decide +kernel
theorem dX6_expect_26 : decode cX6_expect 26 = .ok (.getfield 172, 3) := by decide +kernel
theorem dX6_expect_29 : decode cX6_expect 29 = .ok (.iconst 1, 1) := by decide +kernel
theorem dX6_expect_30 : decode cX6_expect 30 = .ok (.iadd, 1) := by decide +kernel
theorem dX6_expect_31 : decode cX6_expect 31 = .ok (.putfield 172, 3) := by decide +kernel
theorem dX6_expect_34 : decode cX6_expect 34 = .ok (.return_, 1) := by decide +kernel
set_option maxRecDepth 20000 in
theorem ggX6_readLiteral_X6_wrong : GoodIn wsX6_readLiteral wsX6_wrong := goodIn_r _ [8, 3, 55, 56, 57, 58, 59, 60, 61, 62, 63, 64, 65, 66, 67, 68, 69, 70, 71, 72, 73, 74, 75, 76, 77] (by decide +kernel) (by decide +kernel)
set_option maxRecDepth 20000 in
theorem gX6_readLiteral_X6_wrong : GoodIn wsX6_readLiteral (wsV RX6 185 RX6 yX6_wrong wsX6_wrong) := goodIn_app (goodIn_of _ (by decide +kernel)) ggX6_readLiteral_X6_wrong
set_option maxRecDepth 20000 in
theorem ggX6_readLiteral_X6_look : GoodIn wsX6_readLiteral wsX6_look := goodIn_r _ [12, 2, 13, 14, 55, 56, 57, 58, 59, 60, 61, 62, 63, 64, 65, 66, 67, 68, 69, 70, 71, 72, 73, 74, 75, 76, 77] (by decide +kernel) (by decide +kernel)
set_option maxRecDepth 20000 in
theorem gX6_readLiteral_X6_look : GoodIn wsX6_readLiteral (wsV RX6 175 RX6 yX6_look wsX6_look) := goodIn_app (goodIn_of _ (by decide +kernel)) ggX6_readLiteral_X6_look
set_option maxRecDepth 20000 in
theorem ggX6_readLiteral_X6_number : GoodIn wsX6_readLiteral wsX6_number := goodIn_r _ [18, 2, 19, 20, 21, 7, 22, 9, 10, 11, 12, 13, 14, 4, 5, 6, 8, 3, 55, 56, 57, 58, 59, 60, 61, 62, 63, 64, 65, 66, 67, 68, 69, 70, 71, 72, 73, 74, 75, 76, 77] (by decide +kernel) (by decide +kernel)
set_option maxRecDepth 20000 in
theorem gX6_readLiteral_X6_number : GoodIn wsX6_readLiteral (wsV RX6 188 RX6 yX6_number wsX6_number) := goodIn_app (goodIn_of _ (by decide +kernel)) ggX6_readLiteral_X6_number
set_option maxRecDepth 20000 in
theorem ggX6_readLiteral_X6_isCell : GoodIn wsX6_readLiteral wsX6_isCell := goodIn_r _ [26, 27, 28, 29, 7, 30, 31, 32, 55, 56, 57, 58, 59, 60, 61, 62, 63, 64, 65, 66, 67, 68, 69, 70, 71, 72, 73, 74, 75, 76, 77] (by decide +kernel) (by decide +kernel)
set_option maxRecDepth 20000 in
theorem gX6_readLiteral_X6_isCell : GoodIn wsX6_readLiteral (wsV RX6 76 RX6 yX6_isCell wsX6_isCell) := goodIn_app (goodIn_of _ (by decide +kernel)) ggX6_readLiteral_X6_isCell
set_option maxRecDepth 20000 in
theorem ggX6_readLiteral_X6_expect : GoodIn wsX6_readLiteral wsX6_expect := goodIn_r _ [36, 3, 2, 9, 10, 11, 7, 12, 13, 14, 4, 5, 6, 8, 55, 56, 57, 58, 59, 60, 61, 62, 63, 64, 65, 66, 67, 68, 69, 70, 71, 72, 73, 74, 75, 76, 77] (by decide +kernel) (by decide +kernel)
set_option maxRecDepth 20000 in
theorem gX6_readLiteral_X6_expect : GoodIn wsX6_readLiteral (wsV RX6 191 RX6 yX6_expect wsX6_expect) := goodIn_app (goodIn_of _ (by decide +kernel)) ggX6_readLiteral_X6_expect
set_option maxRecDepth 20000 in
theorem ggX6_readLiteral_X6_isSymbol : GoodIn wsX6_readLiteral wsX6_isSymbol := goodIn_r _ [40, 41, 55, 56, 57, 58, 59, 60, 61, 62, 63, 64, 65, 66, 67, 68, 69, 70, 71, 72, 73, 74, 75, 76, 77] (by decide +kernel) (by decide +kernel)
set_option maxRecDepth 20000 in
theorem gX6_readLiteral_X6_isSymbol : GoodIn wsX6_readLiteral (wsV RX6 87 RX6 yX6_isSymbol wsX6_isSymbol) := goodIn_app (goodIn_of _ (by decide +kernel)) ggX6_readLiteral_X6_isSymbol
set_option maxRecDepth 20000 in
theorem ggX6_readLiteral_X6_literalOf : GoodIn wsX6_readLiteral wsX6_literalOf := goodIn_r _ [45, 41, 55, 56, 57, 58, 59, 60, 61, 62, 63, 64, 65, 66, 67, 68, 69, 70, 71, 72, 73, 74, 75, 76, 77] (by decide +kernel) (by decide +kernel)
set_option maxRecDepth 20000 in
theorem gX6_readLiteral_X6_literalOf : GoodIn wsX6_readLiteral (wsV RX6 114 RX6 yX6_literalOf wsX6_literalOf) := goodIn_app (goodIn_of _ (by decide +kernel)) ggX6_readLiteral_X6_literalOf
set_option maxRecDepth 20000 in
theorem ggX6_readLiteral_X6_has : GoodIn wsX6_readLiteral wsX6_has := goodIn_r _ [49, 1, 50, 55, 56, 57, 58, 59, 60, 61, 62, 63, 64, 65, 66, 67, 68, 69, 70, 71, 72, 73, 74, 75, 76, 77] (by decide +kernel) (by decide +kernel)
set_option maxRecDepth 20000 in
theorem gX6_readLiteral_X6_has : GoodIn wsX6_readLiteral (wsV RX6 118 RX6 yX6_has wsX6_has) := goodIn_app (goodIn_of _ (by decide +kernel)) ggX6_readLiteral_X6_has
set_option maxRecDepth 20000 in
theorem ggX6_readLiteral_X6_add : GoodIn wsX6_readLiteral wsX6_add := goodIn_r _ [54, 50, 1, 55, 56, 57, 58, 59, 60, 61, 62, 63, 64, 65, 66, 67, 68, 69, 70, 71, 72, 73, 74, 75, 76, 77] (by decide +kernel) (by decide +kernel)
set_option maxRecDepth 20000 in
theorem gX6_readLiteral_X6_add : GoodIn wsX6_readLiteral (wsV RX6 121 RX6 yX6_add wsX6_add) := goodIn_app (goodIn_of _ (by decide +kernel)) ggX6_readLiteral_X6_add
theorem dX6_readLiteral_0 : decode cX6_readLiteral 0 = .ok (.aload_n 0, 1) := by decide +kernel
theorem dX6_readLiteral_1 : decode cX6_readLiteral 1 = .ok (.getfield 31, 3) := by decide +kernel
theorem dX6_readLiteral_4 : decode cX6_readLiteral 4 = .ok (.iload_n 1, 1) := by decide +kernel
theorem dX6_readLiteral_5 : decode cX6_readLiteral 5 = .ok (.iaload, 1) := by decide +kernel
theorem dX6_readLiteral_6 : decode cX6_readLiteral 6 = .ok (.bipush 16, 2) := by decide +kernel
theorem dX6_readLiteral_8 : decode cX6_readLiteral 8 = .ok (.if_icmp .ne 12, 3) := by decide +kernel
theorem dX6_readLiteral_11 : decode cX6_readLiteral 11 = .ok (.aload_n 0, 1) := by decide +kernel
theorem dX6_readLiteral_12 : decode cX6_readLiteral 12 = .ok (.aload_n 0, 1) := by decide +kernel
theorem dX6_readLiteral_13 : decode cX6_readLiteral 13 = .ok (.getfield 172, 3) := by decide +kernel
theorem dX6_readLiteral_16 : decode cX6_readLiteral 16 = .ok (.invokevirtual 185, 3) := by decide +kernel
theorem dX6_readLiteral_19 : decode cX6_readLiteral 19 = .ok (.return_, 1) := by decide +kernel
theorem dX6_readLiteral_20 : decode cX6_readLiteral 20 = .ok (.aload_n 0, 1) := by decide +kernel
theorem dX6_readLiteral_21 : decode cX6_readLiteral 21 = .ok (.dup, 1) := by decide +kernel
theorem dX6_readLiteral_22 : decode cX6_readLiteral 22 = .ok (.getfield 172, 3) := by decide +kernel
theorem dX6_readLiteral_25 : decode cX6_readLiteral 25 = .ok (.iconst 1, 1) := by decide +kernel
theorem dX6_readLiteral_26 : decode cX6_readLiteral 26 = .ok (.iadd, 1) := by decide +kernel
theorem dX6_readLiteral_27 : decode cX6_readLiteral 27 = .ok (.putfield 172, 3) := by decide +kernel
theorem dX6_readLiteral_30 : decode cX6_readLiteral 30 = .ok (.aload_n 0, 1) := by decide +kernel
theorem dX6_readLiteral_31 : decode cX6_readLiteral 31 = .ok (.invokevirtual 175, 3) := by decide +kernel
theorem dX6_readLiteral_34 : decode cX6_readLiteral 34 = .ok (.bipush 43, 2) := by decide +kernel
theorem dX6_readLiteral_36 : decode cX6_readLiteral 36 = .ok (.if_icmp .ne 7, 3) := by decide +kernel
theorem dX6_readLiteral_39 : decode cX6_readLiteral 39 = .ok (.iconst 1, 1) := by decide +kernel
theorem dX6_readLiteral_40 : decode cX6_readLiteral 40 = .ok (.goto 4, 3) := by decide +kernel
theorem dX6_readLiteral_43 : decode cX6_readLiteral 43 = .ok (.iconst 0, 1) := by decide +kernel
theorem dX6_readLiteral_44 : decode cX6_readLiteral 44 = .ok (.istore_n 2, 1) := by decide +kernel
theorem dX6_readLiteral_45 : decode cX6_readLiteral 45 = .ok (.iload_n 2, 1) := by decide +kernel
theorem dX6_readLiteral_46 : decode cX6_readLiteral 46 = .ok (.ifCond .ne 20, 3) := by decide +kernel
theorem dX6_readLiteral_49 : decode cX6_readLiteral 49 = .ok (.aload_n 0, 1) := by decide +kernel
theorem dX6_readLiteral_50 : decode cX6_readLiteral 50 = .ok (.invokevirtual 175, 3) := by decide +kernel
theorem dX6_readLiteral_53 : decode cX6_readLiteral 53 = .ok (.bipush 45, 2) := by decide +kernel
theorem dX6_readLiteral_55 : decode cX6_readLiteral 55 = .ok (.if_icmp .eq 11, 3) := by decide +kernel
theorem dX6_readLiteral_58 : decode cX6_readLiteral 58 = .ok (.aload_n 0, 1) := by decide +kernel
theorem dX6_readLiteral_59 : decode cX6_readLiteral 59 = .ok (.aload_n 0, 1) := by decide +kernel
theorem dX6_readLiteral_60 : decode cX6_readLiteral 60 = .ok (.getfield 172, 3) := by decide +kernel
theorem dX6_readLiteral_63 : decode cX6_readLiteral 63 = .ok (.invokevirtual 185, 3) := by decide +kernel
theorem dX6_readLiteral_66 : decode cX6_readLiteral 66 = .ok (.aload_n 0, 1) := by decide +kernel
theorem dX6_readLiteral_67 : decode cX6_readLiteral 67 = .ok (.dup, 1) := by decide +kernel
theorem dX6_readLiteral_68 : decode cX6_readLiteral 68 = .ok (.getfield 172, 3) := by decide +kernel
theorem dX6_readLiteral_71 : decode cX6_readLiteral 71 = .ok (.iconst 1, 1) := by decide +kernel
theorem dX6_readLiteral_72 : decode cX6_readLiteral 72 = .ok (.iadd, 1) := by decide +kernel
theorem dX6_readLiteral_73 : decode cX6_readLiteral 73 = .ok (.putfield 172, 3) := by decide +kernel
theorem dX6_readLiteral_76 : decode cX6_readLiteral 76 = .ok (.aload_n 0, 1) := by decide +kernel
theorem dX6_readLiteral_77 : decode cX6_readLiteral 77 = .ok (.getfield 178, 3) := by decide +kernel
theorem dX6_readLiteral_80 : decode cX6_readLiteral 80 = .ok (.ifCond .ge 10, 3) := by decide +kernel
theorem dX6_readLiteral_83 : decode cX6_readLiteral 83 = .ok (.aload_n 0, 1) := by decide +kernel
theorem dX6_readLiteral_84 : decode cX6_readLiteral 84 = .ok (.invokevirtual 188, 3) := by decide +kernel
theorem dX6_readLiteral_87 : decode cX6_readLiteral 87 = .ok (.goto 4, 3) := by decide +kernel
theorem dX6_readLiteral_90 : decode cX6_readLiteral 90 = .ok (.iconst 0, 1) := by decide +kernel
theorem dX6_readLiteral_91 : decode cX6_readLiteral 91 = .ok (.istore_n 3, 1) := by decide +kernel
theorem dX6_readLiteral_92 : decode cX6_readLiteral 92 = .ok (.aload_n 0, 1) := by decide +kernel
theorem dX6_readLiteral_93 : decode cX6_readLiteral 93 = .ok (.getfield 178, 3) := by decide +kernel
theorem dX6_readLiteral_96 : decode cX6_readLiteral 96 = .ok (.ifCond .ge 21, 3) := by decide +kernel
theorem dX6_readLiteral_99 : decode cX6_readLiteral 99 = .ok (.aload_n 0, 1) := by decide +kernel
theorem dX6_readLiteral_100 : decode cX6_readLiteral 100 = .ok (.iload_n 3, 1) := by decide +kernel
theorem dX6_readLiteral_101 : decode cX6_readLiteral 101 = .ok (.invokevirtual 76, 3) := by decide +kernel
theorem dX6_readLiteral_104 : decode cX6_readLiteral 104 = .ok (.ifCond .ne 13, 3) := by decide +kernel
theorem dX6_readLiteral_107 : decode cX6_readLiteral 107 = .ok (.aload_n 0, 1) := by decide +kernel
theorem dX6_readLiteral_108 : decode cX6_readLiteral 108 = .ok (.aload_n 0, 1) := by decide +kernel
theorem dX6_readLiteral_109 : decode cX6_readLiteral 109 = .ok (.getfield 172, 3) := by decide +kernel
theorem dX6_readLiteral_112 : decode cX6_readLiteral 112 = .ok (.iconst 1, 1) := by decide +kernel
theorem dX6_readLiteral_113 : decode cX6_readLiteral 113 = .ok (.isub, 1) := by decide +kernel
theorem dX6_readLiteral_114 : decode cX6_readLiteral 114 = .ok (.invokevirtual 185, 3) := by decide +kernel
theorem dX6_readLiteral_117 : decode cX6_readLiteral 117 = .ok (.aload_n 0, 1) := by decide +kernel
theorem dX6_readLiteral_118 : decode cX6_readLiteral 118 = .ok (.bipush 46, 2) := by decide +kernel
theorem dX6_readLiteral_120 : decode cX6_readLiteral 120 = .ok (.invokevirtual 191, 3) := by decide +kernel
theorem dX6_readLiteral_123 : decode cX6_readLiteral 123 = .ok (.aload_n 0, 1) := by decide +kernel
theorem dX6_readLiteral_124 : decode cX6_readLiteral 124 = .ok (.getfield 178, 3) := by decide +kernel
theorem dX6_readLiteral_127 : decode cX6_readLiteral 127 = .ok (.ifCond .ge 10, 3) := by decide +kernel
theorem dX6_readLiteral_130 : decode cX6_readLiteral 130 = .ok (.aload_n 0, 1) := by decide +kernel
theorem dX6_readLiteral_131 : decode cX6_readLiteral 131 = .ok (.invokevirtual 188, 3) := by decide +kernel
theorem dX6_readLiteral_134 : decode cX6_readLiteral 134 = .ok (.goto 4, 3) := by decide +kernel
theorem dX6_readLiteral_137 : decode cX6_readLiteral 137 = .ok (.iconst 0, 1) := by decide +kernel
theorem dX6_readLiteral_138 : decode cX6_readLiteral 138 = .ok (.istore 4, 2) := by decide +kernel
theorem dX6_readLiteral_140 : decode cX6_readLiteral 140 = .ok (.aload_n 0, 1) := by decide +kernel
theorem dX6_readLiteral_141 : decode cX6_readLiteral 141 = .ok (.getfield 178, 3) := by decide +kernel
theorem dX6_readLiteral_144 : decode cX6_readLiteral 144 = .ok (.ifCond .ge 38, 3) := by decide +kernel
theorem dX6_readLiteral_147 : decode cX6_readLiteral 147 = .ok (.aload_n 0, 1) := by decide +kernel
theorem dX6_readLiteral_148 : decode cX6_readLiteral 148 = .ok (.iload 4, 2) := by decide +kernel
theorem dX6_readLiteral_150 : decode cX6_readLiteral 150 = .ok (.invokevirtual 87, 3) := by decide +kernel
theorem dX6_readLiteral_153 : decode cX6_readLiteral 153 = .ok (.ifCond .eq 19, 3) := by decide +kernel
theorem dX6_readLiteral_156 : decode cX6_readLiteral 156 = .ok (.aload_n 0, 1) := by decide +kernel
theorem dX6_readLiteral_157 : decode cX6_readLiteral 157 = .ok (.iload_n 1, 1) := by decide +kernel
theorem dX6_readLiteral_158 : decode cX6_readLiteral 158 = .ok (.aload_n 0, 1) := by decide +kernel
theorem dX6_readLiteral_159 : decode cX6_readLiteral 159 = .ok (.iload_n 3, 1) := by decide +kernel
theorem dX6_readLiteral_160 : decode cX6_readLiteral 160 = .ok (.iload 4, 2) := by decide +kernel
theorem dX6_readLiteral_162 : decode cX6_readLiteral 162 = .ok (.iload_n 2, 1) := by decide +kernel
theorem dX6_readLiteral_163 : decode cX6_readLiteral 163 = .ok (.invokevirtual 114, 3) := by decide +kernel
theorem dX6_readLiteral_166 : decode cX6_readLiteral 166 = .ok (.invokevirtual 118, 3) := by decide +kernel
theorem dX6_readLiteral_169 : decode cX6_readLiteral 169 = .ok (.ifCond .eq 13, 3) := by decide +kernel
theorem dX6_readLiteral_172 : decode cX6_readLiteral 172 = .ok (.aload_n 0, 1) := by decide +kernel
theorem dX6_readLiteral_173 : decode cX6_readLiteral 173 = .ok (.aload_n 0, 1) := by decide +kernel
theorem dX6_readLiteral_174 : decode cX6_readLiteral 174 = .ok (.getfield 172, 3) := by decide +kernel
theorem dX6_readLiteral_177 : decode cX6_readLiteral 177 = .ok (.iconst 1, 1) := by decide +kernel
theorem dX6_readLiteral_178 : decode cX6_readLiteral 178 = .ok (.isub, 1) := by decide +kernel
theorem dX6_readLiteral_179 : decode cX6_readLiteral 179 = .ok (.invokevirtual 185, 3) := by decide +kernel
theorem dX6_readLiteral_182 : decode cX6_readLiteral 182 = .ok (.aload_n 0, 1) := by decide +kernel
theorem dX6_readLiteral_183 : decode cX6_readLiteral 183 = .ok (.getfield 178, 3) := by decide +kernel
theorem dX6_readLiteral_186 : decode cX6_readLiteral 186 = .ok (.ifCond .ge 16, 3) := by decide +kernel
theorem dX6_readLiteral_189 : decode cX6_readLiteral 189 = .ok (.aload_n 0, 1) := by decide +kernel
theorem dX6_readLiteral_190 : decode cX6_readLiteral 190 = .ok (.iload_n 1, 1) := by decide +kernel
theorem dX6_readLiteral_191 : decode cX6_readLiteral 191 = .ok (.aload_n 0, 1) := by decide +kernel
theorem dX6_readLiteral_192 : decode cX6_readLiteral 192 = .ok (.iload_n 3, 1) := by decide +kernel
theorem dX6_readLiteral_193 : decode cX6_readLiteral 193 = .ok (.iload 4, 2) := by decide +kernel
theorem dX6_readLiteral_195 : decode cX6_readLiteral 195 = .ok (.iload_n 2, 1) := by decide +kernel
theorem dX6_readLiteral_196 : decode cX6_readLiteral 196 = .ok (.invokevirtual 114, 3) := by decide +kernel
theorem dX6_readLiteral_199 : decode cX6_readLiteral 199 = .ok (.invokevirtual 121, 3) := by decide +kernel
theorem dX6_readLiteral_202 : decode cX6_readLiteral 202 = .ok (.return_, 1) := by decide +kernel
set_option maxRecDepth 20000 in
theorem ggX6_readLine_X6_look : GoodIn wsX6_readLine wsX6_look := goodIn_r _ [7, 1, 8, 9, 65, 66, 67, 68, 69, 70, 71, 72, 73, 74, 75, 76, 77, 78, 79, 80, 81, 82, 83, 84, 85, 86, 87] (by decide +kernel) (by decide +kernel)
set_option maxRecDepth 20000 in
theorem gX6_readLine_X6_look : GoodIn wsX6_readLine (wsV RX6 175 RX6 yX6_look wsX6_look) := goodIn_app (goodIn_of _ (by decide +kernel)) ggX6_readLine_X6_look
set_option maxRecDepth 20000 in
theorem ggX6_readLine_X6_wrong : GoodIn wsX6_readLine wsX6_wrong := goodIn_r _ [13, 2, 65, 66, 67, 68, 69, 70, 71, 72, 73, 74, 75, 76, 77, 78, 79, 80, 81, 82, 83, 84, 85, 86, 87] (by decide +kernel) (by decide +kernel)
set_option maxRecDepth 20000 in
theorem gX6_readLine_X6_wrong : GoodIn wsX6_readLine (wsV RX6 185 RX6 yX6_wrong wsX6_wrong) := goodIn_app (goodIn_of _ (by decide +kernel)) ggX6_readLine_X6_wrong
set_option maxRecDepth 20000 in
theorem ggX6_readLine_X6_number : GoodIn wsX6_readLine wsX6_number := goodIn_r _ [17, 1, 18, 19, 20, 6, 21, 3, 4, 5, 7, 8, 9, 10, 11, 12, 13, 2, 65, 66, 67, 68, 69, 70, 71, 72, 73, 74, 75, 76, 77, 78, 79, 80, 81, 82, 83, 84, 85, 86, 87] (by decide +kernel) (by decide +kernel)
set_option maxRecDepth 20000 in
theorem gX6_readLine_X6_number : GoodIn wsX6_readLine (wsV RX6 188 RX6 yX6_number wsX6_number) := goodIn_app (goodIn_of _ (by decide +kernel)) ggX6_readLine_X6_number
set_option maxRecDepth 20000 in
theorem ggX6_readLine_X6_begin : GoodIn wsX6_readLine wsX6_begin := goodIn_r _ [25, 26, 27, 28, 65, 66, 67, 68, 69, 70, 71, 72, 73, 74, 75, 76, 77, 78, 79, 80, 81, 82, 83, 84, 85, 86, 87] (by decide +kernel) (by decide +kernel)
set_option maxRecDepth 20000 in
theorem gX6_readLine_X6_begin : GoodIn wsX6_readLine (wsV RX6 110 RX6 yX6_begin wsX6_begin) := goodIn_app (goodIn_of _ (by decide +kernel)) ggX6_readLine_X6_begin
set_option maxRecDepth 20000 in
theorem ggX6_readLine_X6_readLiteral : GoodIn wsX6_readLine wsX6_readLiteral := goodIn_r _ [32, 28, 1, 2, 10, 11, 12, 6, 13, 3, 4, 5, 7, 8, 9, 14, 15, 16, 17, 18, 19, 20, 21, 33, 34, 35, 36, 37, 38, 39, 40, 41, 42, 43, 44, 45, 46, 47, 48, 49, 50, 51, 52, 53, 54, 55, 56, 57, 58, 59, 60, 61, 62, 63, 64, 65, 66, 67, 68, 69, 70, 71, 72, 73, 74, 75, 76, 77, 78, 79, 80, 81, 82, 83, 84, 85, 86, 87] (by decide +kernel) (by decide +kernel)
set_option maxRecDepth 20000 in
theorem gX6_readLine_X6_readLiteral : GoodIn wsX6_readLine (wsV RX6 194 RX6 yX6_readLiteral wsX6_readLiteral) := goodIn_app (goodIn_of _ (by decide +kernel)) ggX6_readLine_X6_readLiteral
set_option maxRecDepth 20000 in
theorem ggX6_readLine_X6_expect : GoodIn wsX6_readLine wsX6_expect := goodIn_r _ [46, 2, 1, 3, 4, 5, 6, 7, 8, 9, 10, 11, 12, 13, 65, 66, 67, 68, 69, 70, 71, 72, 73, 74, 75, 76, 77, 78, 79, 80, 81, 82, 83, 84, 85, 86, 87] (by decide +kernel) (by decide +kernel)
set_option maxRecDepth 20000 in
theorem gX6_readLine_X6_expect : GoodIn wsX6_readLine (wsV RX6 191 RX6 yX6_expect wsX6_expect) := goodIn_app (goodIn_of _ (by decide +kernel)) ggX6_readLine_X6_expect
theorem dX6_readLine_0 : decode cX6_readLine 0 = .ok (.aload_n 0, 1) := by decide +kernel
theorem dX6_readLine_1 : decode cX6_readLine 1 = .ok (.invokevirtual 175, 3) := by decide +kernel
theorem dX6_readLine_4 : decode cX6_readLine 4 = .ok (.istore_n 3, 1) := by decide +kernel
theorem dX6_readLine_5 : decode cX6_readLine 5 = .ok (.iload_n 3, 1) := by decide +kernel
theorem dX6_readLine_6 : decode cX6_readLine 6 = .ok (.bipush 114, 2) := by decide +kernel
theorem dX6_readLine_8 : decode cX6_readLine 8 = .ok (.if_icmp .ne 7, 3) := by decide +kernel
theorem dX6_readLine_11 : decode cX6_readLine 11 = .ok (.iconst 0, 1) := by decide +kernel
theorem dX6_readLine_12 : decode cX6_readLine 12 = .ok (.goto 34, 3) := by decide +kernel
theorem dX6_readLine_15 : decode cX6_readLine 15 = .ok (.iload_n 3, 1) := by decide +kernel
theorem dX6_readLine_16 : decode cX6_readLine 16 = .ok (.bipush 117, 2) := by decide +kernel
theorem dX6_readLine_18 : decode cX6_readLine 18 = .ok (.if_icmp .ne 7, 3) := by decide +kernel
theorem dX6_readLine_21 : decode cX6_readLine 21 = .ok (.iconst 1, 1) := by decide +kernel
theorem dX6_readLine_22 : decode cX6_readLine 22 = .ok (.goto 24, 3) := by decide +kernel
theorem dX6_readLine_25 : decode cX6_readLine 25 = .ok (.iload_n 3, 1) := by decide +kernel
theorem dX6_readLine_26 : decode cX6_readLine 26 = .ok (.bipush 115, 2) := by decide +kernel
theorem dX6_readLine_28 : decode cX6_readLine 28 = .ok (.if_icmp .ne 7, 3) := by decide +kernel
theorem dX6_readLine_31 : decode cX6_readLine 31 = .ok (.iconst 2, 1) := by decide +kernel
theorem dX6_readLine_32 : decode cX6_readLine 32 = .ok (.goto 14, 3) := by decide +kernel
theorem dX6_readLine_35 : decode cX6_readLine 35 = .ok (.iload_n 3, 1) := by decide +kernel
theorem dX6_readLine_36 : decode cX6_readLine 36 = .ok (.bipush 98, 2) := by decide +kernel
theorem dX6_readLine_38 : decode cX6_readLine 38 = .ok (.if_icmp .ne 7, 3) := by decide +kernel
theorem dX6_readLine_41 : decode cX6_readLine 41 = .ok (.iconst 3, 1) := by decide +kernel
theorem dX6_readLine_42 : decode cX6_readLine 42 = .ok (.goto 4, 3) := by decide +kernel
theorem dX6_readLine_45 : decode cX6_readLine 45 = .ok (.iconst (-1), 1) := by decide +kernel
theorem dX6_readLine_46 : decode cX6_readLine 46 = .ok (.istore 4, 2) := by decide +kernel
theorem dX6_readLine_48 : decode cX6_readLine 48 = .ok (.iload 4, 2) := by decide +kernel
theorem dX6_readLine_50 : decode cX6_readLine 50 = .ok (.ifCond .ge 12, 3) := by decide +kernel
theorem dX6_readLine_53 : decode cX6_readLine 53 = .ok (.aload_n 0, 1) := by decide +kernel
theorem dX6_readLine_54 : decode cX6_readLine 54 = .ok (.aload_n 0, 1) := by decide +kernel
theorem dX6_readLine_55 : decode cX6_readLine 55 = .ok (.getfield 172, 3) := by decide +kernel
theorem dX6_readLine_58 : decode cX6_readLine 58 = .ok (.invokevirtual 185, 3) := by decide +kernel
theorem dX6_readLine_61 : decode cX6_readLine 61 = .ok (.return_, 1) := by decide +kernel
theorem dX6_readLine_62 : decode cX6_readLine 62 = .ok (.aload_n 0, 1) := by decide +kernel
theorem dX6_readLine_63 : decode cX6_readLine 63 = .ok (.dup, 1) := by decide +kernel
theorem dX6_readLine_64 : decode cX6_readLine 64 = .ok (.getfield 172, 3) := by decide +kernel
theorem dX6_readLine_67 : decode cX6_readLine 67 = .ok (.iconst 1, 1) := by decide +kernel
theorem dX6_readLine_68 : decode cX6_readLine 68 = .ok (.iadd, 1) := by decide +kernel
theorem dX6_readLine_69 : decode cX6_readLine 69 = .ok (.putfield 172, 3) := by decide +kernel
theorem dX6_readLine_72 : decode cX6_readLine 72 = .ok (.aload_n 0, 1) := by decide +kernel
theorem dX6_readLine_73 : decode cX6_readLine 73 = .ok (.iload_n 1, 1) := by decide +kernel
theorem dX6_readLine_74 : decode cX6_readLine 74 = .ok (.iload 4, 2) := by decide +kernel
theorem dX6_readLine_76 : decode cX6_readLine 76 = .ok (.iload 4, 2) := by decide +kernel
theorem dX6_readLine_78 : decode cX6_readLine 78 = .ok (.iconst 2, 1) := by decide +kernel
theorem dX6_readLine_79 : decode cX6_readLine 79 = .ok (.irem, 1) := by decide +kernel
theorem dX6_readLine_80 : decode cX6_readLine 80 = .ok (.ifCond .ne 10, 3) := by decide +kernel
theorem dX6_readLine_83 : decode cX6_readLine 83 = .ok (.aload_n 0, 1) := by decide +kernel
theorem dX6_readLine_84 : decode cX6_readLine 84 = .ok (.invokevirtual 188, 3) := by decide +kernel
theorem dX6_readLine_87 : decode cX6_readLine 87 = .ok (.goto 4, 3) := by decide +kernel
theorem dX6_readLine_90 : decode cX6_readLine 90 = .ok (.iconst 0, 1) := by decide +kernel
theorem dX6_readLine_91 : decode cX6_readLine 91 = .ok (.invokevirtual 110, 3) := by decide +kernel
theorem dX6_readLine_94 : decode cX6_readLine 94 = .ok (.aload_n 0, 1) := by decide +kernel
theorem dX6_readLine_95 : decode cX6_readLine 95 = .ok (.getfield 178, 3) := by decide +kernel
theorem dX6_readLine_98 : decode cX6_readLine 98 = .ok (.ifCond .ge 20, 3) := by decide +kernel
theorem dX6_readLine_101 : decode cX6_readLine 101 = .ok (.aload_n 0, 1) := by decide +kernel
theorem dX6_readLine_102 : decode cX6_readLine 102 = .ok (.invokevirtual 175, 3) := by decide +kernel
theorem dX6_readLine_105 : decode cX6_readLine 105 = .ok (.bipush 32, 2) := by decide +kernel
theorem dX6_readLine_107 : decode cX6_readLine 107 = .ok (.if_icmp .ne 11, 3) := by decide +kernel
theorem dX6_readLine_110 : decode cX6_readLine 110 = .ok (.aload_n 0, 1) := by decide +kernel
theorem dX6_readLine_111 : decode cX6_readLine 111 = .ok (.iload_n 1, 1) := by decide +kernel
theorem dX6_readLine_112 : decode cX6_readLine 112 = .ok (.invokevirtual 194, 3) := by decide +kernel
theorem dX6_readLine_115 : decode cX6_readLine 115 = .ok (.goto (-21), 3) := by decide +kernel
theorem dX6_readLine_118 : decode cX6_readLine 118 = .ok (.aload_n 0, 1) := by decide +kernel
theorem dX6_readLine_119 : decode cX6_readLine 119 = .ok (.getfield 178, 3) := by decide +kernel
theorem dX6_readLine_122 : decode cX6_readLine 122 = .ok (.ifCond .ge 26, 3) := by decide +kernel
theorem dX6_readLine_125 : decode cX6_readLine 125 = .ok (.aload_n 0, 1) := by decide +kernel
theorem dX6_readLine_126 : decode cX6_readLine 126 = .ok (.invokevirtual 175, 3) := by decide +kernel
theorem dX6_readLine_129 : decode cX6_readLine 129 = .ok (.bipush 59, 2) := by decide +kernel
theorem dX6_readLine_131 : decode cX6_readLine 131 = .ok (.if_icmp .ne 17, 3) := by decide +kernel
theorem dX6_readLine_134 : decode cX6_readLine 134 = .ok (.iload_n 2, 1) := by decide +kernel
theorem dX6_readLine_135 : decode cX6_readLine 135 = .ok (.bipush 60, 2) := by decide +kernel
theorem dX6_readLine_137 : decode cX6_readLine 137 = .ok (.if_icmp .ne 11, 3) := by decide +kernel
theorem dX6_readLine_140 : decode cX6_readLine 140 = .ok (.aload_n 0, 1) := by decide +kernel
theorem dX6_readLine_141 : decode cX6_readLine 141 = .ok (.aload_n 0, 1) := by decide +kernel
theorem dX6_readLine_142 : decode cX6_readLine 142 = .ok (.getfield 172, 3) := by decide +kernel
theorem dX6_readLine_145 : decode cX6_readLine 145 = .ok (.invokevirtual 185, 3) := by decide +kernel
theorem dX6_readLine_148 : decode cX6_readLine 148 = .ok (.aload_n 0, 1) := by decide +kernel
theorem dX6_readLine_149 : decode cX6_readLine 149 = .ok (.bipush 59, 2) := by decide +kernel
theorem dX6_readLine_151 : decode cX6_readLine 151 = .ok (.invokevirtual 191, 3) := by decide +kernel
theorem dX6_readLine_154 : decode cX6_readLine 154 = .ok (.return_, 1) := by decide +kernel
set_option maxRecDepth 20000 in
theorem ggX6_read_X6_readLine : GoodIn wsX6_read wsX6_readLine := goodIn_r _ [14, 2, 3, 15, 16, 17, 13, 18, 4, 19, 20, 21, 22, 23, 24, 25, 26, 27, 28, 29, 30, 31, 32, 33, 34, 35, 6, 7, 8, 36, 37, 38, 39, 40, 41, 42, 43, 44, 45, 46, 47, 48, 49, 50, 51, 52, 53, 54, 55, 56, 57, 58, 59, 60, 61, 62, 63, 64, 65, 66, 9, 67, 68, 69, 70, 71, 72, 73, 74, 75, 76, 77, 78, 79, 80, 81, 82, 83, 84, 85, 86, 87, 88, 89, 90, 91, 92, 93] (by decide +kernel) (by decide +kernel)
set_option maxRecDepth 20000 in
theorem gX6_read_X6_readLine : GoodIn wsX6_read (wsV RX6 197 RX6 yX6_readLine wsX6_readLine) := goodIn_app (goodIn_of _ (by decide +kernel)) ggX6_read_X6_readLine
set_option maxRecDepth 20000 in
theorem ggX6_read_X6_begin : GoodIn wsX6_read wsX6_begin := goodIn_r _ [35, 6, 7, 8, 71, 72, 73, 74, 75, 76, 77, 78, 79, 80, 81, 82, 83, 84, 85, 86, 87, 88, 89, 90, 91, 92, 93] (by decide +kernel) (by decide +kernel)
set_option maxRecDepth 20000 in
theorem gX6_read_X6_begin : GoodIn wsX6_read (wsV RX6 110 RX6 yX6_begin wsX6_begin) := goodIn_app (goodIn_of _ (by decide +kernel)) ggX6_read_X6_begin
set_option maxRecDepth 20000 in
theorem ggX6_read_X6_add : GoodIn wsX6_read wsX6_add := goodIn_r _ [70, 9, 8, 71, 72, 73, 74, 75, 76, 77, 78, 79, 80, 81, 82, 83, 84, 85, 86, 87, 88, 89, 90, 91, 92, 93] (by decide +kernel) (by decide +kernel)
set_option maxRecDepth 20000 in
theorem gX6_read_X6_add : GoodIn wsX6_read (wsV RX6 121 RX6 yX6_add wsX6_add) := goodIn_app (goodIn_of _ (by decide +kernel)) ggX6_read_X6_add
theorem dX6_read_0 : decode cX6_read 0 = .ok (.aload_n 0, 1) := by decide +kernel
theorem dX6_read_1 : decode cX6_read 1 = .ok (.iconst 0, 1) := by decide +kernel
theorem dX6_read_2 : decode cX6_read 2 = .ok (.putfield 63, 3) := by decide +kernel
theorem dX6_read_5 : decode cX6_read 5 = .ok (.aload_n 0, 1) := by decide +kernel
theorem dX6_read_6 : decode cX6_read 6 = .ok (.iconst 0, 1) := by decide +kernel
theorem dX6_read_7 : decode cX6_read 7 = .ok (.putfield 172, 3) := by decide +kernel
theorem dX6_read_10 : decode cX6_read 10 = .ok (.aload_n 0, 1) := by decide +kernel
theorem dX6_read_11 : decode cX6_read 11 = .ok (.iconst (-1), 1) := by decide +kernel
theorem dX6_read_12 : decode cX6_read 12 = .ok (.putfield 178, 3) := by decide +kernel
theorem dX6_read_15 : decode cX6_read 15 = .ok (.iconst 0, 1) := by decide +kernel
theorem dX6_read_16 : decode cX6_read 16 = .ok (.istore_n 1, 1) := by decide +kernel
theorem dX6_read_17 : decode cX6_read 17 = .ok (.aload_n 0, 1) := by decide +kernel
theorem dX6_read_18 : decode cX6_read 18 = .ok (.getfield 178, 3) := by decide +kernel
theorem dX6_read_21 : decode cX6_read 21 = .ok (.ifCond .ge 45, 3) := by decide +kernel
theorem dX6_read_24 : decode cX6_read 24 = .ok (.aload_n 0, 1) := by decide +kernel
theorem dX6_read_25 : decode cX6_read 25 = .ok (.getfield 172, 3) := by decide +kernel
theorem dX6_read_28 : decode cX6_read 28 = .ok (.aload_n 0, 1) := by decide +kernel
theorem dX6_read_29 : decode cX6_read 29 = .ok (.getfield 169, 3) := by decide +kernel
theorem dX6_read_32 : decode cX6_read 32 = .ok (.if_icmp .ge 34, 3) := by decide +kernel
theorem dX6_read_35 : decode cX6_read 35 = .ok (.aload_n 0, 1) := by decide +kernel
theorem dX6_read_36 : decode cX6_read 36 = .ok (.bipush 60, 2) := by decide +kernel
theorem dX6_read_38 : decode cX6_read 38 = .ok (.iload_n 1, 1) := by decide +kernel
theorem dX6_read_39 : decode cX6_read 39 = .ok (.bipush 60, 2) := by decide +kernel
theorem dX6_read_41 : decode cX6_read 41 = .ok (.if_icmp .ge 7, 3) := by decide +kernel
theorem dX6_read_44 : decode cX6_read 44 = .ok (.iload_n 1, 1) := by decide +kernel
theorem dX6_read_45 : decode cX6_read 45 = .ok (.goto 5, 3) := by decide +kernel
theorem dX6_read_48 : decode cX6_read 48 = .ok (.bipush 59, 2) := by decide +kernel
theorem dX6_read_50 : decode cX6_read 50 = .ok (.iadd, 1) := by decide +kernel
theorem dX6_read_51 : decode cX6_read 51 = .ok (.aload_n 0, 1) := by decide +kernel
theorem dX6_read_52 : decode cX6_read 52 = .ok (.getfield 107, 3) := by decide +kernel
theorem dX6_read_55 : decode cX6_read 55 = .ok (.iload_n 1, 1) := by decide +kernel
theorem dX6_read_56 : decode cX6_read 56 = .ok (.iadd, 1) := by decide +kernel
theorem dX6_read_57 : decode cX6_read 57 = .ok (.invokevirtual 197, 3) := by decide +kernel
theorem dX6_read_60 : decode cX6_read 60 = .ok (.iinc 1 1, 3) := by decide +kernel
theorem dX6_read_63 : decode cX6_read 63 = .ok (.goto (-46), 3) := by decide +kernel
theorem dX6_read_66 : decode cX6_read 66 = .ok (.aload_n 0, 1) := by decide +kernel
theorem dX6_read_67 : decode cX6_read 67 = .ok (.iconst 0, 1) := by decide +kernel
theorem dX6_read_68 : decode cX6_read 68 = .ok (.putfield 169, 3) := by decide +kernel
theorem dX6_read_71 : decode cX6_read 71 = .ok (.aload_n 0, 1) := by decide +kernel
theorem dX6_read_72 : decode cX6_read 72 = .ok (.getfield 178, 3) := by decide +kernel
theorem dX6_read_75 : decode cX6_read 75 = .ok (.ifCond .lt 10, 3) := by decide +kernel
theorem dX6_read_78 : decode cX6_read 78 = .ok (.iconst (-1), 1) := by decide +kernel
theorem dX6_read_79 : decode cX6_read 79 = .ok (.aload_n 0, 1) := by decide +kernel
theorem dX6_read_80 : decode cX6_read 80 = .ok (.getfield 178, 3) := by decide +kernel
theorem dX6_read_83 : decode cX6_read 83 = .ok (.isub, 1) := by decide +kernel
theorem dX6_read_84 : decode cX6_read 84 = .ok (.ireturn, 1) := by decide +kernel
theorem dX6_read_85 : decode cX6_read 85 = .ok (.iconst 0, 1) := by decide +kernel
theorem dX6_read_86 : decode cX6_read 86 = .ok (.istore_n 2, 1) := by decide +kernel
theorem dX6_read_87 : decode cX6_read 87 = .ok (.iload_n 2, 1) := by decide +kernel
theorem dX6_read_88 : decode cX6_read 88 = .ok (.iload_n 1, 1) := by decide +kernel
theorem dX6_read_89 : decode cX6_read 89 = .ok (.if_icmp .ge 88, 3) := by decide +kernel
theorem dX6_read_92 : decode cX6_read 92 = .ok (.aload_n 0, 1) := by decide +kernel
theorem dX6_read_93 : decode cX6_read 93 = .ok (.aload_n 0, 1) := by decide +kernel
theorem dX6_read_94 : decode cX6_read 94 = .ok (.getfield 107, 3) := by decide +kernel
theorem dX6_read_97 : decode cX6_read 97 = .ok (.aload_n 0, 1) := by decide +kernel
theorem dX6_read_98 : decode cX6_read 98 = .ok (.getfield 25, 3) := by decide +kernel
theorem dX6_read_101 : decode cX6_read 101 = .ok (.bipush 60, 2) := by decide +kernel
theorem dX6_read_103 : decode cX6_read 103 = .ok (.iload_n 2, 1) := by decide +kernel
theorem dX6_read_104 : decode cX6_read 104 = .ok (.iadd, 1) := by decide +kernel
theorem dX6_read_105 : decode cX6_read 105 = .ok (.iaload, 1) := by decide +kernel
theorem dX6_read_106 : decode cX6_read 106 = .ok (.aload_n 0, 1) := by decide +kernel
theorem dX6_read_107 : decode cX6_read 107 = .ok (.getfield 28, 3) := by decide +kernel
theorem dX6_read_110 : decode cX6_read 110 = .ok (.bipush 60, 2) := by decide +kernel
theorem dX6_read_112 : decode cX6_read 112 = .ok (.iload_n 2, 1) := by decide +kernel
theorem dX6_read_113 : decode cX6_read 113 = .ok (.iadd, 1) := by decide +kernel
theorem dX6_read_114 : decode cX6_read 114 = .ok (.iaload, 1) := by decide +kernel
theorem dX6_read_115 : decode cX6_read 115 = .ok (.invokevirtual 110, 3) := by decide +kernel
theorem dX6_read_118 : decode cX6_read 118 = .ok (.iconst 0, 1) := by decide +kernel
theorem dX6_read_119 : decode cX6_read 119 = .ok (.istore_n 3, 1) := by decide +kernel
theorem dX6_read_120 : decode cX6_read 120 = .ok (.iload_n 3, 1) := by decide +kernel
theorem dX6_read_121 : decode cX6_read 121 = .ok (.aload_n 0, 1) := by decide +kernel
theorem dX6_read_122 : decode cX6_read 122 = .ok (.getfield 31, 3) := by decide +kernel
theorem dX6_read_125 : decode cX6_read 125 = .ok (.bipush 60, 2) := by decide +kernel
theorem dX6_read_127 : decode cX6_read 127 = .ok (.iload_n 2, 1) := by decide +kernel
theorem dX6_read_128 : decode cX6_read 128 = .ok (.iadd, 1) := by decide +kernel
theorem dX6_read_129 : decode cX6_read 129 = .ok (.iaload, 1) := by decide +kernel
theorem dX6_read_130 : decode cX6_read 130 = .ok (.if_icmp .ge 31, 3) := by decide +kernel
theorem dX6_read_133 : decode cX6_read 133 = .ok (.aload_n 0, 1) := by decide +kernel
theorem dX6_read_134 : decode cX6_read 134 = .ok (.aload_n 0, 1) := by decide +kernel
theorem dX6_read_135 : decode cX6_read 135 = .ok (.getfield 107, 3) := by decide +kernel
theorem dX6_read_138 : decode cX6_read 138 = .ok (.aload_n 0, 1) := by decide +kernel
theorem dX6_read_139 : decode cX6_read 139 = .ok (.getfield 34, 3) := by decide +kernel
theorem dX6_read_142 : decode cX6_read 142 = .ok (.bipush 16, 2) := by decide +kernel
theorem dX6_read_144 : decode cX6_read 144 = .ok (.bipush 60, 2) := by decide +kernel
theorem dX6_read_146 : decode cX6_read 146 = .ok (.iload_n 2, 1) := by decide +kernel
theorem dX6_read_147 : decode cX6_read 147 = .ok (.iadd, 1) := by decide +kernel
theorem dX6_read_148 : decode cX6_read 148 = .ok (.imul, 1) := by decide +kernel
theorem dX6_read_149 : decode cX6_read 149 = .ok (.iload_n 3, 1) := by decide +kernel
theorem dX6_read_150 : decode cX6_read 150 = .ok (.iadd, 1) := by decide +kernel
theorem dX6_read_151 : decode cX6_read 151 = .ok (.iaload, 1) := by decide +kernel
theorem dX6_read_152 : decode cX6_read 152 = .ok (.invokevirtual 121, 3) := by decide +kernel
theorem dX6_read_155 : decode cX6_read 155 = .ok (.iinc 3 1, 3) := by decide +kernel
theorem dX6_read_158 : decode cX6_read 158 = .ok (.goto (-38), 3) := by decide +kernel
theorem dX6_read_161 : decode cX6_read 161 = .ok (.aload_n 0, 1) := by decide +kernel
theorem dX6_read_162 : decode cX6_read 162 = .ok (.dup, 1) := by decide +kernel
theorem dX6_read_163 : decode cX6_read 163 = .ok (.getfield 107, 3) := by decide +kernel
theorem dX6_read_166 : decode cX6_read 166 = .ok (.iconst 1, 1) := by decide +kernel
theorem dX6_read_167 : decode cX6_read 167 = .ok (.iadd, 1) := by decide +kernel
theorem dX6_read_168 : decode cX6_read 168 = .ok (.putfield 107, 3) := by decide +kernel
theorem dX6_read_171 : decode cX6_read 171 = .ok (.iinc 2 1, 3) := by decide +kernel
theorem dX6_read_174 : decode cX6_read 174 = .ok (.goto (-87), 3) := by decide +kernel
theorem dX6_read_177 : decode cX6_read 177 = .ok (.iload_n 1, 1) := by decide +kernel
theorem dX6_read_178 : decode cX6_read 178 = .ok (.ireturn, 1) := by decide +kernel
end
section
/-! MY KIT: pure guards, the contract of a method whose answer and new cells are known, its start, its end, its calls. -/
/-- an index that is in range -/
def gin {α : Type} (i : Int32) (n : Nat) (k : Option α) : Option α := if 0 ≤ i.toInt ∧ i.toInt < (n : Int) then k else none
def gnz {α : Type} (y : Int32) (k : Option α) : Option α := if y = 0 then none else k
def gbl {α : Type} (v : Int32) (k : Option α) : Option α := if v = 0 ∨ v = 1 then k else none
theorem gin_some {α : Type} {i : Int32} {n : Nat} {k : Option α} {r : α} (h : gin i n k = some r) : vp_in i n ∧ k = some r := by
  unfold gin at h
  split at h
  · exact ⟨vp_in_iff.mpr ‹_›, h⟩
  · cases h
theorem gin_in {α : Type} {i : Int32} {n : Nat} {k : Option α} (h : 0 ≤ i.toInt ∧ i.toInt < (n : Int)) : gin i n k = k := if_pos h
theorem gnz_some {α : Type} {y : Int32} {k : Option α} {r : α} (h : gnz y k = some r) : ¬ y = 0 ∧ k = some r := by
  unfold gnz at h
  split at h
  · cases h
  · exact ⟨‹_›, h⟩
theorem gbl_some {α : Type} {v : Int32} {k : Option α} {r : α} (h : gbl v k = some r) : (v = 0 ∨ v = 1) ∧ k = some r := by
  unfold gbl at h
  split at h
  · exact ⟨‹_›, h⟩
  · cases h
theorem it_t {c : Prop} [Decidable c] {α : Sort _} {a b r : α} (h : c) (e : (if c then a else b) = r) : a = r := by rw [if_pos h] at e; exact e
theorem it_f {c : Prop} [Decidable c] {α : Sort _} {a b r : α} (h : ¬ c) (e : (if c then a else b) = r) : b = r := by rw [if_neg h] at e; exact e
theorem bnd {α β : Type} {x : Option α} {f : α → Option β} {r : β} (h : Option.bind x f = some r) : ∃ q, x = some q ∧ f q = some r := by
  cases x with
  | none => cases h
  | some q => exact ⟨q, rfl, h⟩
theorem nar_b {v : Int32} (h : v = 0 ∨ v = 1) : narrow .boolean (.int v) = .int v := by
  rcases h with rfl | rfl <;> rfl
theorem fit_b {v : Int32} (h : v = 0 ∨ v = 1) : fits .boolean (.int v) = true := by
  rcases h with rfl | rfl <;> rfl
/-- words that no reader of steady words carries: two private members of nest mates -/
def nk (U : State) : Prop := va_Nw (.methodLinkNest RX5 29 yX1_init RX5) U ∧ va_Nw (.methodLinkNest RX5 194 yX3_canBeMet RX5) U
theorem nk.warm {s U : State} (hW : s.WarmedH U.vm) (h : nk s) : nk U := ⟨va_Nw.warmM hW h.1, va_Nw.warmM hW h.2⟩
theorem nk.same {s U : State} (hv : s.vm = U.vm) (h : nk s) : nk U := ⟨va_Nw.same rfl hv h.1, va_Nw.same rfl hv h.2⟩
section MK
variable {p : Program} {l : Launch} {e : Env} {R : Room} {s : State} {m : MethodId} {args : Array Value} {below : List Frame} {meth : Method} {c : Code} {H : Heap} {locs : List Loc} {cells slots : Nat} {Q : State → Prop}
variable {D : va_G} {cI : ClassId} {A : Nat → Prop} {cc bytes : ByteArray} {pc maxL nL index n : Nat} {ls : Array Slot} {own C : String} {y : MethodName} {ret : Option FieldType} {ws wsy ws' Ts : List Cond} {rm : Room} {wc wn w1 wr : va_W} {r : Int32} {As rest st : List Value} {b : Nat}
def kPre (D : va_G) (cI : ClassId) (As : List Value) (wc : va_W) (sz : Nat) : Array Value → State → Prop :=
  va_Pc As (fun U => U.heap.size = sz ∧ va_P D vwCl wc U.heap ∧ va_K D vwCl [(cI, .int)] U ∧ va_D (fun _ => True) wc ∧ nk U)
def kB (D : va_G) (A : Nat → Prop) (w1 : va_W) : Unit → State → Prop := fun _ t => va_P D vwCl w1 t.heap ∧ va_D A w1
def kQi (D : va_G) (A : Nat → Prop) (w1 : va_W) (r : Int32) : Array Value → State → Outcome → State → Prop := va_Qi (fun r' (_ : Unit) => r' = r) (kB D A w1) A
def kQv (D : va_G) (A : Nat → Prop) (w1 : va_W) : Array Value → State → Outcome → State → Prop := va_Qv (fun (_ : Unit) => True) (kB D A w1) A
/-- the contract of a method that makes nothing: its arguments, its cells before and behind, its answer -/
def kI (l : Launch) (y : MethodName) (ws : List Cond) (rm : Room) (D : va_G) (cI : ClassId) (As : List Value) (wc w1 : va_W) (r : Int32) : Prop :=
  ∀ sz, Met l y ws rm (kPre D cI As wc sz) (kQi D (va_A wc sz) w1 r) 0 0 (va_A wc sz)
def kV (l : Launch) (y : MethodName) (ws : List Cond) (rm : Room) (D : va_G) (cI : ClassId) (As : List Value) (wc w1 : va_W) : Prop :=
  ∀ sz, Met l y ws rm (kPre D cI As wc sz) (kQv D (va_A wc sz) w1) 0 0 (va_A wc sz)
theorem kPre_blind (D : va_G) (cI : ClassId) (As : List Value) (wc : va_W) (sz : Nat) : FrameBlind (kPre D cI As wc sz) := fun a U g mk h => by
  obtain ⟨h0, h1, h2, h3, h4, h5⟩ := h
  exact ⟨h0, h1, h2, va_K.moved (u := U) (U := U.calling g mk a) (Vm.Alike.refl U.vm) h3, h4, nk.same rfl h5⟩
/-- what a walk stands on -/
def kC (p : Program) (s : State) (m : MethodId) (args : Array Value) (meth : Method) (c : Code) (cc : ByteArray) (nL : Nat) (ws : List Cond) (own : String) (ret : Option FieldType) (D : va_G) (cI : ClassId) (A : Nat → Prop) : Prop :=
  CallFix p m c cc nL s args ws own ∧ meth.sig.returnType = ret ∧ meth.locks = false ∧ va_K D vwCl [(cI, .int)] s ∧ nk s ∧ ∀ q : Nat, s.heap.size ≤ q → A q
theorem kI_of (hy : plainName y.cls = true) (hw : ws = Cond.code y cc maxL ret :: ws') (hlen : (lg_sl As).length ≤ maxL)
    (body : ∀ (p : Program) (e : Env) (s : State) (m : MethodId) (args : Array Value) (below : List Frame) (meth : Method) (c : Code) (A : Nat → Prop) (ls : Array Slot), kC p s m args meth c cc maxL ws y.cls ret D cI A → va_P D vwCl wc s.heap → va_D A wc → va_S A s.heap s.heap [] → lv_has ls maxL (lv_args 0 As) →
      W p l e rm s m args below meth c s.heap [] 0 0 (MQ below (kQi D A w1 r) args s 0 0 A) (F0 m 0 ls [])) : kI l y ws rm D cI As wc w1 r := by
  intro sz
  refine Met.ofW (cc := cc) (maxL := maxL) (ret := ret) hy hw ?_
  intro p e s m args below meth c s₁ B hml hv
  obtain ⟨rfl, hsz, hP, hK, hD0, hN⟩ := hv
  subst hsz
  have hl := lv_entry As (n := maxL) hlen
  rw [lg_entry_eq]
  exact body p e s m _ below meth c _ _ ⟨⟨B.exec, B.bytes, hml, findClass_of_methodNamed B.named, atoms_spec (ws := ws) B.pre⟩, B.returns, B.notSynchronized, hK, hN, fun q h => Or.inr h⟩ hP hD0.self va_S.rf hl
theorem kV_of (hy : plainName y.cls = true) (hw : ws = Cond.code y cc maxL ret :: ws') (hlen : (lg_sl As).length ≤ maxL)
    (body : ∀ (p : Program) (e : Env) (s : State) (m : MethodId) (args : Array Value) (below : List Frame) (meth : Method) (c : Code) (A : Nat → Prop) (ls : Array Slot), kC p s m args meth c cc maxL ws y.cls ret D cI A → va_P D vwCl wc s.heap → va_D A wc → va_S A s.heap s.heap [] → lv_has ls maxL (lv_args 0 As) →
      W p l e rm s m args below meth c s.heap [] 0 0 (MQ below (kQv D A w1) args s 0 0 A) (F0 m 0 ls [])) : kV l y ws rm D cI As wc w1 := by
  intro sz
  refine Met.ofW (cc := cc) (maxL := maxL) (ret := ret) hy hw ?_
  intro p e s m args below meth c s₁ B hml hv
  obtain ⟨rfl, hsz, hP, hK, hD0, hN⟩ := hv
  subst hsz
  have hl := lv_entry As (n := maxL) hlen
  rw [lg_entry_eq]
  exact body p e s m _ below meth c _ _ ⟨⟨B.exec, B.bytes, hml, findClass_of_methodNamed B.named, atoms_spec (ws := ws) B.pre⟩, B.returns, B.notSynchronized, hK, hN, fun q h => Or.inr h⟩ hP hD0.self va_S.rf hl
theorem kI_ret {ty : FieldType} (S : kC p s m args meth c cc nL ws own (some ty) D cI A) (hn : narrow ty (.int r) = .int r) (hP : va_P D vwCl w1 H) (hD : va_D A w1) (hS : va_S A s.heap H locs) (d : decode cc pc = .ok (.ireturn, 1)) :
    W p l e R s m args below meth c H locs 0 0 (MQ below (kQi D A w1 r) args s 0 0 A) (F0 m pc ls [.int r]) :=
  W.zret (ty := ty) S.1.1 S.1.2.1 S.2.1 hn (fun t ht hW => ⟨⟨r, (), rfl, rfl, by rw [ht]; exact hP, hD⟩, hS.F ht⟩) hS.2.2 d S.2.2.1
theorem kV_ret (S : kC p s m args meth c cc nL ws own none D cI A) (hP : va_P D vwCl w1 H) (hD : va_D A w1) (hS : va_S A s.heap H locs) (d : decode cc pc = .ok (.return_, 1)) :
    W p l e R s m args below meth c H locs 0 0 (MQ below (kQv D A w1) args s 0 0 A) (F0 m pc ls []) :=
  W.vret S.1.1 S.1.2.1 S.2.1 (fun t ht hW => ⟨⟨(), rfl, trivial, by rw [ht]; exact hP, hD⟩, hS.F ht⟩) hS.2.2 d S.2.2.1
theorem kFree {wc : va_W} (hD : va_D A wc) (hS : va_S A s.heap H locs) (hA : ∀ q : Nat, s.heap.size ≤ q → A q) : ∀ q, va_A wc H.size q → A q := by
  intro q h
  rcases h with ⟨k, e, h⟩ | h
  · exact hD.2 k (q, e) h
  · exact hA q (Nat.le_trans hS.1 h)
theorem kPreS (S : kC p s m args meth c cc nL ws own ret D cI A) (hP : va_P D vwCl wc H) (hD : va_D A wc) : PreS s H (kPre D cI As wc H.size) As :=
  ⟨kPre_blind _ _ _ _ _, fun U hU hW => ⟨rfl, by rw [hU], by rw [hU]; exact hP, va_K.moved hW.alike S.2.2.2.1, hD.weaken (fun _ _ _ _ => trivial), nk.warm hW S.2.2.2.2.1⟩⟩
theorem kPreV (S : kC p s m args meth c cc nL ws own ret D cI A) (hP : va_P D vwCl wc H) (hD : va_D A wc) {q0 ci : Nat} {fs : List Value} {T : u_T} {N : Nat} (he : wc[q0]? = some (b, .inr (ci, fs))) (hc : vwCl[ci]? = some (C, T, N)) : PreV s H C b (kPre D cI (.ref b :: As) wc H.size) As :=
  ⟨kPre_blind _ _ _ _ _, va_recv (q := (C, T, N)) S.2.2.2.1 hP hc he, fun U hU hW => ⟨rfl, by rw [hU], by rw [hU]; exact hP, va_K.moved hW.alike S.2.2.2.1, hD.weaken (fun _ _ _ _ => trivial), nk.warm hW S.2.2.2.2.1⟩⟩
/-- a call of a virtual method over the same cells -/
theorem kI_callV {ret' : Option FieldType} (S : kC p s m args meth c cc nL ws own ret D cI A) (hP : va_P D vwCl wc H) (hD : va_D A wc) (hS : va_S A s.heap H locs)
    (hM : kI l y wsy rm D cI (.ref b :: As) wc w1 r) (cw : CallW R s args own C index y bytes maxL ret' wsy rm 0 0 n) (q0 : Nat) {ci : Nat} {fs : List Value} {T : u_T} {N : Nat} (he : wc[q0]? = some (b, .inr (ci, fs))) (hc : vwCl[ci]? = some (C, T, N))
    (hn : As.length = n) (hsize : ls.size = nL) (hst : st = As.reverse ++ .ref b :: rest) (hroom : (rest.map fun v => v.category).sum ≤ 8) (hdg : decode cc pc = .ok (.invokevirtual index, 3)) (hf : cells ≤ R.cells ∧ slots ≤ R.slots)
    (kk : ∀ (H1 : Heap) (locs1 : List Loc), va_P D vwCl w1 H1 → va_D A w1 → va_S A s.heap H1 locs1 → W p l e R s m args below meth c H1 locs1 cells slots Q (F0 m (pc + 3) ls (.int r :: rest))) :
    W p l e R s m args below meth c H locs cells slots Q (F0 m pc ls st) := by
  have hF := kFree hD hS S.2.2.2.2.2
  refine va_calli (va_runV S.1 (hM H.size) cw (kPreV S hP hD he hc) rfl hn hsize hst (lv_room hroom) hdg hf) hS (fun q _ h => hF q h) hF (fun r' u t H1 locs1 ht hvm hw hB hz1 hk1 hS1 => ?_)
  cases hw
  exact kk H1 locs1 (by rw [← ht]; exact hB.1) (hB.2.weaken (fun k q _ h => hF q.1 h)) hS1
theorem kV_callV {ret' : Option FieldType} (S : kC p s m args meth c cc nL ws own ret D cI A) (hP : va_P D vwCl wc H) (hD : va_D A wc) (hS : va_S A s.heap H locs)
    (hM : kV l y wsy rm D cI (.ref b :: As) wc w1) (cw : CallW R s args own C index y bytes maxL ret' wsy rm 0 0 n) (q0 : Nat) {ci : Nat} {fs : List Value} {T : u_T} {N : Nat} (he : wc[q0]? = some (b, .inr (ci, fs))) (hc : vwCl[ci]? = some (C, T, N))
    (hn : As.length = n) (hsize : ls.size = nL) (hst : st = As.reverse ++ .ref b :: rest) (hroom : (rest.map fun v => v.category).sum ≤ 8) (hdg : decode cc pc = .ok (.invokevirtual index, 3)) (hf : cells ≤ R.cells ∧ slots ≤ R.slots)
    (kk : ∀ (H1 : Heap) (locs1 : List Loc), va_P D vwCl w1 H1 → va_D A w1 → va_S A s.heap H1 locs1 → W p l e R s m args below meth c H1 locs1 cells slots Q (F0 m (pc + 3) ls rest)) :
    W p l e R s m args below meth c H locs cells slots Q (F0 m pc ls st) := by
  have hF := kFree hD hS S.2.2.2.2.2
  refine va_callv (va_runV S.1 (hM H.size) cw (kPreV S hP hD he hc) rfl hn hsize hst (lv_room hroom) hdg hf) hS (fun q _ h => hF q h) hF (fun u t H1 locs1 ht hvm hw hB hz1 hk1 hS1 => ?_)
  exact kk H1 locs1 (by rw [← ht]; exact hB.1) (hB.2.weaken (fun k q _ h => hF q.1 h)) hS1
/-- a call of a static method, over no cells of its own -/
theorem kI_callS {ret' : Option FieldType} (S : kC p s m args meth c cc nL ws own ret D cI A) (hP : va_P D vwCl wc H) (hD : va_D A wc) (hS : va_S A s.heap H locs)
    (hM : kI l y wsy rm D cI As [] [] r) (cw : CallB R s args own index y bytes maxL ret' wsy rm 0 0 n ∧ (Cond.static y).before args s = true)
    (hn : As.length = n) (hsize : ls.size = nL) (hst : st = As.reverse ++ rest) (hroom : (rest.map fun v => v.category).sum ≤ 8) (hdg : decode cc pc = .ok (.invokestatic index, 3)) (hf : cells ≤ R.cells ∧ slots ≤ R.slots)
    (kk : ∀ (H1 : Heap) (locs1 : List Loc), va_P D vwCl wc H1 → va_D A wc → va_S A s.heap H1 locs1 → W p l e R s m args below meth c H1 locs1 cells slots Q (F0 m (pc + 3) ls (.int r :: rest))) :
    W p l e R s m args below meth c H locs cells slots Q (F0 m pc ls st) := by
  have hP0 : va_P D vwCl [] H := fun k q h => by simp at h
  have hD0 : va_D A ([] : va_W) := ⟨fun i j p q h => by simp at h, fun k q h => by simp at h⟩
  have hF := kFree hD0 hS S.2.2.2.2.2
  refine va_calli (va_runS S.1 (hM H.size) cw (kPreS S hP0 hD0) rfl hn hsize hst (lv_room hroom) hdg hf) hS (fun q _ h => hF q h) hF (fun r' u t H1 locs1 ht hvm hw hB hz1 hk1 hS1 => ?_)
  cases hw
  refine kk H1 locs1 (hP.kept (fun k q h => hk1 q.1 (hP k q h).lt (fun h9 => ?_))) hD hS1
  rcases h9 with ⟨k9, e9, h9⟩ | h9
  · simp at h9
  · exact absurd (hP k q h).lt (Nat.not_lt.mpr h9)
theorem sw_in {dflt lo hi : Int} {offs : Array Int} {len : Nat} {x k : Int32} {off : Int} {tgt : Nat} (hexec : p.tables.exec = Jvm.exec) (hb : c.code = cc) (hx : x = k) (hdg : decode cc pc = .ok (.tableswitch dflt lo hi offs, len)) (h1 : ¬ k.toInt < lo) (h2 : ¬ hi < k.toInt) (ho : offs[(k.toInt - lo).toNat]? = some off) (ht : (pc : Int) + off = (tgt : Int))
    (kk : W p l e R s m args below meth c H locs cells slots Q (F0 m tgt ls rest)) : W p l e R s m args below meth c H locs cells slots Q (F0 m pc ls (.int x :: rest)) := by
  subst hx
  exact lv_tableIn hexec hb hdg h1 h2 ho ht kk
end MK
end
