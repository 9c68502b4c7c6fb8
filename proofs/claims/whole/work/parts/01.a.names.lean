-- ===== PART A: goes FIRST, ahead of the names: the tables' words, and 'selects' of the private methods out of them =====
/-- a private method of a class that the tables say can be made, by its rows of tables_1 -/
def lw_okq (q : MethodName × Nat) : Prop := (q.1.cls ≠ "java/lang/invoke/MethodHandle" ∧ q.1.cls ≠ "java/lang/invoke/VarHandle") ∧ Cond.instantiable q.1.cls q.2 ∈ tables_1 ∧ Cond.privateMethod q.1 ∈ tables_1 ∧ Cond.instanceMethod q.1 ∈ tables_1
theorem lw_p0 : lw_okq (⟨"NearlySaid", "found", "(I)I"⟩, 10) := ⟨⟨by decide +kernel, by decide +kernel⟩, List.mem_of_getElem? (i := 12) (by decide +kernel), List.mem_of_getElem? (i := 190) (by decide +kernel), List.mem_of_getElem? (i := 191) (by decide +kernel)⟩
theorem lw_p1 : lw_okq (⟨"NearlySaid", "unfound", "(I)I"⟩, 10) := ⟨⟨by decide +kernel, by decide +kernel⟩, List.mem_of_getElem? (i := 12) (by decide +kernel), List.mem_of_getElem? (i := 202) (by decide +kernel), List.mem_of_getElem? (i := 203) (by decide +kernel)⟩
theorem lw_p2 : lw_okq (⟨"NearlySaid$Tape", "advance", "()V"⟩, 8) := ⟨⟨by decide +kernel, by decide +kernel⟩, List.mem_of_getElem? (i := 22) (by decide +kernel), List.mem_of_getElem? (i := 256) (by decide +kernel), List.mem_of_getElem? (i := 257) (by decide +kernel)⟩
theorem lw_p3 : lw_okq (⟨"NearlySaid$Tape", "readFigures", "()V"⟩, 8) := ⟨⟨by decide +kernel, by decide +kernel⟩, List.mem_of_getElem? (i := 22) (by decide +kernel), List.mem_of_getElem? (i := 263) (by decide +kernel), List.mem_of_getElem? (i := 264) (by decide +kernel)⟩
theorem lw_p4 : lw_okq (⟨"NearlySaid$Tape", "readLaw", "(LNearlySaid$Street;)Z"⟩, 8) := ⟨⟨by decide +kernel, by decide +kernel⟩, List.mem_of_getElem? (i := 22) (by decide +kernel), List.mem_of_getElem? (i := 267) (by decide +kernel), List.mem_of_getElem? (i := 268) (by decide +kernel)⟩
theorem lw_p5 : lw_okq (⟨"NearlySaid$Tape", "takesByte", "(I)Z"⟩, 8) := ⟨⟨by decide +kernel, by decide +kernel⟩, List.mem_of_getElem? (i := 22) (by decide +kernel), List.mem_of_getElem? (i := 271) (by decide +kernel), List.mem_of_getElem? (i := 272) (by decide +kernel)⟩
theorem lw_p6 : lw_okq (⟨"NearlySaid$Tape", "fails", "(I)Z"⟩, 8) := ⟨⟨by decide +kernel, by decide +kernel⟩, List.mem_of_getElem? (i := 22) (by decide +kernel), List.mem_of_getElem? (i := 275) (by decide +kernel), List.mem_of_getElem? (i := 276) (by decide +kernel)⟩
theorem lw_p7 : lw_okq (⟨"NearlySaid$Tape", "takesNumber", "(II)Z"⟩, 8) := ⟨⟨by decide +kernel, by decide +kernel⟩, List.mem_of_getElem? (i := 22) (by decide +kernel), List.mem_of_getElem? (i := 279) (by decide +kernel), List.mem_of_getElem? (i := 280) (by decide +kernel)⟩
theorem lw_p8 : lw_okq (⟨"NearlySaid$Tape", "readHouse", "(LNearlySaid$Street;)Z"⟩, 8) := ⟨⟨by decide +kernel, by decide +kernel⟩, List.mem_of_getElem? (i := 22) (by decide +kernel), List.mem_of_getElem? (i := 288) (by decide +kernel), List.mem_of_getElem? (i := 289) (by decide +kernel)⟩
theorem lw_p9 : lw_okq (⟨"NearlySaid$Street", "flowOf", "(I)I"⟩, 12) := ⟨⟨by decide +kernel, by decide +kernel⟩, List.mem_of_getElem? (i := 57) (by decide +kernel), List.mem_of_getElem? (i := 351) (by decide +kernel), List.mem_of_getElem? (i := 352) (by decide +kernel)⟩
theorem lw_p10 : lw_okq (⟨"NearlySaid$Street", "behindBars", "(II)I"⟩, 12) := ⟨⟨by decide +kernel, by decide +kernel⟩, List.mem_of_getElem? (i := 57) (by decide +kernel), List.mem_of_getElem? (i := 356) (by decide +kernel), List.mem_of_getElem? (i := 357) (by decide +kernel)⟩
theorem lw_p11 : lw_okq (⟨"NearlySaid", "isHouse", "(I)Z"⟩, 10) := ⟨⟨by decide +kernel, by decide +kernel⟩, List.mem_of_getElem? (i := 12) (by decide +kernel), List.mem_of_getElem? (i := 375) (by decide +kernel), List.mem_of_getElem? (i := 376) (by decide +kernel)⟩
theorem lw_p12 : lw_okq (⟨"NearlySaid", "fewestToHush", "(II)I"⟩, 10) := ⟨⟨by decide +kernel, by decide +kernel⟩, List.mem_of_getElem? (i := 12) (by decide +kernel), List.mem_of_getElem? (i := 456) (by decide +kernel), List.mem_of_getElem? (i := 457) (by decide +kernel)⟩
theorem lw_p13 : lw_okq (⟨"NearlySaid", "foreseeHushed", "(II)V"⟩, 10) := ⟨⟨by decide +kernel, by decide +kernel⟩, List.mem_of_getElem? (i := 12) (by decide +kernel), List.mem_of_getElem? (i := 466) (by decide +kernel), List.mem_of_getElem? (i := 467) (by decide +kernel)⟩
theorem lw_p14 : lw_okq (⟨"NearlySaid", "allThatFit", "(IIILNearlySaid$Row;II)I"⟩, 10) := ⟨⟨by decide +kernel, by decide +kernel⟩, List.mem_of_getElem? (i := 12) (by decide +kernel), List.mem_of_getElem? (i := 510) (by decide +kernel), List.mem_of_getElem? (i := 511) (by decide +kernel)⟩
theorem lw_p15 : lw_okq (⟨"NearlySaid", "isAsTold", "(ILNearlySaid$Row;II)Z"⟩, 10) := ⟨⟨by decide +kernel, by decide +kernel⟩, List.mem_of_getElem? (i := 12) (by decide +kernel), List.mem_of_getElem? (i := 514) (by decide +kernel), List.mem_of_getElem? (i := 515) (by decide +kernel)⟩
def lw_privs_1 : List (MethodName × Nat) := [(⟨"NearlySaid", "found", "(I)I"⟩, 10), (⟨"NearlySaid", "unfound", "(I)I"⟩, 10), (⟨"NearlySaid$Tape", "advance", "()V"⟩, 8), (⟨"NearlySaid$Tape", "readFigures", "()V"⟩, 8), (⟨"NearlySaid$Tape", "readLaw", "(LNearlySaid$Street;)Z"⟩, 8), (⟨"NearlySaid$Tape", "takesByte", "(I)Z"⟩, 8), (⟨"NearlySaid$Tape", "fails", "(I)Z"⟩, 8), (⟨"NearlySaid$Tape", "takesNumber", "(II)Z"⟩, 8), (⟨"NearlySaid$Tape", "readHouse", "(LNearlySaid$Street;)Z"⟩, 8), (⟨"NearlySaid$Street", "flowOf", "(I)I"⟩, 12), (⟨"NearlySaid$Street", "behindBars", "(II)I"⟩, 12), (⟨"NearlySaid", "isHouse", "(I)Z"⟩, 10), (⟨"NearlySaid", "fewestToHush", "(II)I"⟩, 10), (⟨"NearlySaid", "foreseeHushed", "(II)V"⟩, 10), (⟨"NearlySaid", "allThatFit", "(IIILNearlySaid$Row;II)I"⟩, 10), (⟨"NearlySaid", "isAsTold", "(ILNearlySaid$Row;II)Z"⟩, 10)]
theorem lw_r1 : ∀ q ∈ lw_privs_1, lw_okq q := List.forall_mem_cons.mpr ⟨lw_p0, List.forall_mem_cons.mpr ⟨lw_p1, List.forall_mem_cons.mpr ⟨lw_p2, List.forall_mem_cons.mpr ⟨lw_p3, List.forall_mem_cons.mpr ⟨lw_p4, List.forall_mem_cons.mpr ⟨lw_p5, List.forall_mem_cons.mpr ⟨lw_p6, List.forall_mem_cons.mpr ⟨lw_p7, List.forall_mem_cons.mpr ⟨lw_p8, List.forall_mem_cons.mpr ⟨lw_p9, List.forall_mem_cons.mpr ⟨lw_p10, List.forall_mem_cons.mpr ⟨lw_p11, List.forall_mem_cons.mpr ⟨lw_p12, List.forall_mem_cons.mpr ⟨lw_p13, List.forall_mem_cons.mpr ⟨lw_p14, List.forall_mem_cons.mpr ⟨lw_p15, fun _ h => absurd h List.not_mem_nil⟩⟩⟩⟩⟩⟩⟩⟩⟩⟩⟩⟩⟩⟩⟩⟩
theorem lw_p16 : lw_okq (⟨"NearlySaid", "silentOnesThatFit", "(ILNearlySaid$Row;II)I"⟩, 10) := ⟨⟨by decide +kernel, by decide +kernel⟩, List.mem_of_getElem? (i := 12) (by decide +kernel), List.mem_of_getElem? (i := 522) (by decide +kernel), List.mem_of_getElem? (i := 523) (by decide +kernel)⟩
theorem lw_p17 : lw_okq (⟨"NearlySaid", "casesOverPlank", "(II)J"⟩, 10) := ⟨⟨by decide +kernel, by decide +kernel⟩, List.mem_of_getElem? (i := 12) (by decide +kernel), List.mem_of_getElem? (i := 532) (by decide +kernel), List.mem_of_getElem? (i := 533) (by decide +kernel)⟩
theorem lw_p18 : lw_okq (⟨"NearlySaid", "answerOf", "(III)I"⟩, 10) := ⟨⟨by decide +kernel, by decide +kernel⟩, List.mem_of_getElem? (i := 12) (by decide +kernel), List.mem_of_getElem? (i := 581) (by decide +kernel), List.mem_of_getElem? (i := 582) (by decide +kernel)⟩
theorem lw_p19 : lw_okq (⟨"NearlySaid", "given", "(III)I"⟩, 10) := ⟨⟨by decide +kernel, by decide +kernel⟩, List.mem_of_getElem? (i := 12) (by decide +kernel), List.mem_of_getElem? (i := 592) (by decide +kernel), List.mem_of_getElem? (i := 593) (by decide +kernel)⟩
theorem lw_p20 : lw_okq (⟨"NearlySaid", "leaveTrace", "(I)V"⟩, 10) := ⟨⟨by decide +kernel, by decide +kernel⟩, List.mem_of_getElem? (i := 12) (by decide +kernel), List.mem_of_getElem? (i := 596) (by decide +kernel), List.mem_of_getElem? (i := 597) (by decide +kernel)⟩
theorem lw_p21 : lw_okq (⟨"NearlySaid", "rowsThere", "()I"⟩, 10) := ⟨⟨by decide +kernel, by decide +kernel⟩, List.mem_of_getElem? (i := 12) (by decide +kernel), List.mem_of_getElem? (i := 608) (by decide +kernel), List.mem_of_getElem? (i := 609) (by decide +kernel)⟩
theorem lw_p22 : lw_okq (⟨"NearlySaidModel", "find", "(I)I"⟩, 23) := ⟨⟨by decide +kernel, by decide +kernel⟩, List.mem_of_getElem? (i := 616) (by decide +kernel), List.mem_of_getElem? (i := 706) (by decide +kernel), List.mem_of_getElem? (i := 707) (by decide +kernel)⟩
theorem lw_p23 : lw_okq (⟨"NearlySaidModel", "well", "(I)I"⟩, 23) := ⟨⟨by decide +kernel, by decide +kernel⟩, List.mem_of_getElem? (i := 616) (by decide +kernel), List.mem_of_getElem? (i := 711) (by decide +kernel), List.mem_of_getElem? (i := 712) (by decide +kernel)⟩
theorem lw_p24 : lw_okq (⟨"NearlySaidModel", "readStreet", "()Z"⟩, 23) := ⟨⟨by decide +kernel, by decide +kernel⟩, List.mem_of_getElem? (i := 616) (by decide +kernel), List.mem_of_getElem? (i := 740) (by decide +kernel), List.mem_of_getElem? (i := 741) (by decide +kernel)⟩
theorem lw_p25 : lw_okq (⟨"NearlySaidModel", "nextToken", "()V"⟩, 23) := ⟨⟨by decide +kernel, by decide +kernel⟩, List.mem_of_getElem? (i := 616) (by decide +kernel), List.mem_of_getElem? (i := 744) (by decide +kernel), List.mem_of_getElem? (i := 745) (by decide +kernel)⟩
theorem lw_p26 : lw_okq (⟨"NearlySaidModel", "takes", "(I)Z"⟩, 23) := ⟨⟨by decide +kernel, by decide +kernel⟩, List.mem_of_getElem? (i := 616) (by decide +kernel), List.mem_of_getElem? (i := 752) (by decide +kernel), List.mem_of_getElem? (i := 753) (by decide +kernel)⟩
theorem lw_p27 : lw_okq (⟨"NearlySaidModel", "isLetter", "(I)Z"⟩, 23) := ⟨⟨by decide +kernel, by decide +kernel⟩, List.mem_of_getElem? (i := 616) (by decide +kernel), List.mem_of_getElem? (i := 756) (by decide +kernel), List.mem_of_getElem? (i := 757) (by decide +kernel)⟩
theorem lw_p28 : lw_okq (⟨"NearlySaidModel", "faults", "(I)Z"⟩, 23) := ⟨⟨by decide +kernel, by decide +kernel⟩, List.mem_of_getElem? (i := 616) (by decide +kernel), List.mem_of_getElem? (i := 760) (by decide +kernel), List.mem_of_getElem? (i := 761) (by decide +kernel)⟩
theorem lw_p29 : lw_okq (⟨"NearlySaidModel", "takesNumber", "(IIII)Z"⟩, 23) := ⟨⟨by decide +kernel, by decide +kernel⟩, List.mem_of_getElem? (i := 616) (by decide +kernel), List.mem_of_getElem? (i := 764) (by decide +kernel), List.mem_of_getElem? (i := 765) (by decide +kernel)⟩
theorem lw_p30 : lw_okq (⟨"NearlySaidModel", "readHouse", "()Z"⟩, 23) := ⟨⟨by decide +kernel, by decide +kernel⟩, List.mem_of_getElem? (i := 616) (by decide +kernel), List.mem_of_getElem? (i := 768) (by decide +kernel), List.mem_of_getElem? (i := 769) (by decide +kernel)⟩
theorem lw_p31 : lw_okq (⟨"NearlySaidModel", "note", "()V"⟩, 23) := ⟨⟨by decide +kernel, by decide +kernel⟩, List.mem_of_getElem? (i := 616) (by decide +kernel), List.mem_of_getElem? (i := 787) (by decide +kernel), List.mem_of_getElem? (i := 788) (by decide +kernel)⟩
def lw_privs_2 : List (MethodName × Nat) := [(⟨"NearlySaid", "silentOnesThatFit", "(ILNearlySaid$Row;II)I"⟩, 10), (⟨"NearlySaid", "casesOverPlank", "(II)J"⟩, 10), (⟨"NearlySaid", "answerOf", "(III)I"⟩, 10), (⟨"NearlySaid", "given", "(III)I"⟩, 10), (⟨"NearlySaid", "leaveTrace", "(I)V"⟩, 10), (⟨"NearlySaid", "rowsThere", "()I"⟩, 10), (⟨"NearlySaidModel", "find", "(I)I"⟩, 23), (⟨"NearlySaidModel", "well", "(I)I"⟩, 23), (⟨"NearlySaidModel", "readStreet", "()Z"⟩, 23), (⟨"NearlySaidModel", "nextToken", "()V"⟩, 23), (⟨"NearlySaidModel", "takes", "(I)Z"⟩, 23), (⟨"NearlySaidModel", "isLetter", "(I)Z"⟩, 23), (⟨"NearlySaidModel", "faults", "(I)Z"⟩, 23), (⟨"NearlySaidModel", "takesNumber", "(IIII)Z"⟩, 23), (⟨"NearlySaidModel", "readHouse", "()Z"⟩, 23), (⟨"NearlySaidModel", "note", "()V"⟩, 23)]
theorem lw_r2 : ∀ q ∈ lw_privs_2, lw_okq q := List.forall_mem_cons.mpr ⟨lw_p16, List.forall_mem_cons.mpr ⟨lw_p17, List.forall_mem_cons.mpr ⟨lw_p18, List.forall_mem_cons.mpr ⟨lw_p19, List.forall_mem_cons.mpr ⟨lw_p20, List.forall_mem_cons.mpr ⟨lw_p21, List.forall_mem_cons.mpr ⟨lw_p22, List.forall_mem_cons.mpr ⟨lw_p23, List.forall_mem_cons.mpr ⟨lw_p24, List.forall_mem_cons.mpr ⟨lw_p25, List.forall_mem_cons.mpr ⟨lw_p26, List.forall_mem_cons.mpr ⟨lw_p27, List.forall_mem_cons.mpr ⟨lw_p28, List.forall_mem_cons.mpr ⟨lw_p29, List.forall_mem_cons.mpr ⟨lw_p30, List.forall_mem_cons.mpr ⟨lw_p31, fun _ h => absurd h List.not_mem_nil⟩⟩⟩⟩⟩⟩⟩⟩⟩⟩⟩⟩⟩⟩⟩⟩
theorem lw_p32 : lw_okq (⟨"NearlySaidModel", "oneMinute", "()V"⟩, 23) := ⟨⟨by decide +kernel, by decide +kernel⟩, List.mem_of_getElem? (i := 616) (by decide +kernel), List.mem_of_getElem? (i := 791) (by decide +kernel), List.mem_of_getElem? (i := 792) (by decide +kernel)⟩
theorem lw_p33 : lw_okq (⟨"NearlySaidModel", "shedsOf", "(I)I"⟩, 23) := ⟨⟨by decide +kernel, by decide +kernel⟩, List.mem_of_getElem? (i := 616) (by decide +kernel), List.mem_of_getElem? (i := 795) (by decide +kernel), List.mem_of_getElem? (i := 796) (by decide +kernel)⟩
theorem lw_p34 : lw_okq (⟨"NearlySaidModel", "isHouse", "(I)Z"⟩, 23) := ⟨⟨by decide +kernel, by decide +kernel⟩, List.mem_of_getElem? (i := 616) (by decide +kernel), List.mem_of_getElem? (i := 806) (by decide +kernel), List.mem_of_getElem? (i := 807) (by decide +kernel)⟩
theorem lw_p35 : lw_okq (⟨"NearlySaidModel", "letOff", "(I)V"⟩, 23) := ⟨⟨by decide +kernel, by decide +kernel⟩, List.mem_of_getElem? (i := 616) (by decide +kernel), List.mem_of_getElem? (i := 825) (by decide +kernel), List.mem_of_getElem? (i := 826) (by decide +kernel)⟩
theorem lw_p36 : lw_okq (⟨"NearlySaidModel", "isOver", "()Z"⟩, 23) := ⟨⟨by decide +kernel, by decide +kernel⟩, List.mem_of_getElem? (i := 616) (by decide +kernel), List.mem_of_getElem? (i := 837) (by decide +kernel), List.mem_of_getElem? (i := 838) (by decide +kernel)⟩
theorem lw_p37 : lw_okq (⟨"NearlySaidModel", "sumOf", "(I)I"⟩, 23) := ⟨⟨by decide +kernel, by decide +kernel⟩, List.mem_of_getElem? (i := 616) (by decide +kernel), List.mem_of_getElem? (i := 841) (by decide +kernel), List.mem_of_getElem? (i := 842) (by decide +kernel)⟩
theorem lw_p38 : lw_okq (⟨"NearlySaidModel", "putAside", "()V"⟩, 23) := ⟨⟨by decide +kernel, by decide +kernel⟩, List.mem_of_getElem? (i := 616) (by decide +kernel), List.mem_of_getElem? (i := 849) (by decide +kernel), List.mem_of_getElem? (i := 850) (by decide +kernel)⟩
theorem lw_p39 : lw_okq (⟨"NearlySaidModel", "goOn", "(I)V"⟩, 23) := ⟨⟨by decide +kernel, by decide +kernel⟩, List.mem_of_getElem? (i := 616) (by decide +kernel), List.mem_of_getElem? (i := 853) (by decide +kernel), List.mem_of_getElem? (i := 854) (by decide +kernel)⟩
theorem lw_p40 : lw_okq (⟨"NearlySaidModel", "takeBack", "()V"⟩, 23) := ⟨⟨by decide +kernel, by decide +kernel⟩, List.mem_of_getElem? (i := 616) (by decide +kernel), List.mem_of_getElem? (i := 857) (by decide +kernel), List.mem_of_getElem? (i := 858) (by decide +kernel)⟩
theorem lw_p41 : lw_okq (⟨"NearlySaidModel", "fullNow", "()I"⟩, 23) := ⟨⟨by decide +kernel, by decide +kernel⟩, List.mem_of_getElem? (i := 616) (by decide +kernel), List.mem_of_getElem? (i := 877) (by decide +kernel), List.mem_of_getElem? (i := 878) (by decide +kernel)⟩
theorem lw_p42 : lw_okq (⟨"NearlySaidModel", "quietBy", "(II)I"⟩, 23) := ⟨⟨by decide +kernel, by decide +kernel⟩, List.mem_of_getElem? (i := 616) (by decide +kernel), List.mem_of_getElem? (i := 890) (by decide +kernel), List.mem_of_getElem? (i := 891) (by decide +kernel)⟩
theorem lw_p43 : lw_okq (⟨"NearlySaidModel", "pondBy", "(I)I"⟩, 23) := ⟨⟨by decide +kernel, by decide +kernel⟩, List.mem_of_getElem? (i := 616) (by decide +kernel), List.mem_of_getElem? (i := 906) (by decide +kernel), List.mem_of_getElem? (i := 907) (by decide +kernel)⟩
theorem lw_p44 : lw_okq (⟨"NearlySaidModel", "lacks", "(III)I"⟩, 23) := ⟨⟨by decide +kernel, by decide +kernel⟩, List.mem_of_getElem? (i := 616) (by decide +kernel), List.mem_of_getElem? (i := 930) (by decide +kernel), List.mem_of_getElem? (i := 931) (by decide +kernel)⟩
theorem lw_p45 : lw_okq (⟨"NearlySaidModel", "isSo", "(III)Z"⟩, 23) := ⟨⟨by decide +kernel, by decide +kernel⟩, List.mem_of_getElem? (i := 616) (by decide +kernel), List.mem_of_getElem? (i := 935) (by decide +kernel), List.mem_of_getElem? (i := 936) (by decide +kernel)⟩
theorem lw_p46 : lw_okq (⟨"NearlySaidModel", "sizeOf", "(I)I"⟩, 23) := ⟨⟨by decide +kernel, by decide +kernel⟩, List.mem_of_getElem? (i := 616) (by decide +kernel), List.mem_of_getElem? (i := 983) (by decide +kernel), List.mem_of_getElem? (i := 984) (by decide +kernel)⟩
theorem lw_p47 : lw_okq (⟨"NearlySaidModel", "begin", "(I)V"⟩, 23) := ⟨⟨by decide +kernel, by decide +kernel⟩, List.mem_of_getElem? (i := 616) (by decide +kernel), List.mem_of_getElem? (i := 987) (by decide +kernel), List.mem_of_getElem? (i := 988) (by decide +kernel)⟩
def lw_privs_3 : List (MethodName × Nat) := [(⟨"NearlySaidModel", "oneMinute", "()V"⟩, 23), (⟨"NearlySaidModel", "shedsOf", "(I)I"⟩, 23), (⟨"NearlySaidModel", "isHouse", "(I)Z"⟩, 23), (⟨"NearlySaidModel", "letOff", "(I)V"⟩, 23), (⟨"NearlySaidModel", "isOver", "()Z"⟩, 23), (⟨"NearlySaidModel", "sumOf", "(I)I"⟩, 23), (⟨"NearlySaidModel", "putAside", "()V"⟩, 23), (⟨"NearlySaidModel", "goOn", "(I)V"⟩, 23), (⟨"NearlySaidModel", "takeBack", "()V"⟩, 23), (⟨"NearlySaidModel", "fullNow", "()I"⟩, 23), (⟨"NearlySaidModel", "quietBy", "(II)I"⟩, 23), (⟨"NearlySaidModel", "pondBy", "(I)I"⟩, 23), (⟨"NearlySaidModel", "lacks", "(III)I"⟩, 23), (⟨"NearlySaidModel", "isSo", "(III)Z"⟩, 23), (⟨"NearlySaidModel", "sizeOf", "(I)I"⟩, 23), (⟨"NearlySaidModel", "begin", "(I)V"⟩, 23)]
theorem lw_r3 : ∀ q ∈ lw_privs_3, lw_okq q := List.forall_mem_cons.mpr ⟨lw_p32, List.forall_mem_cons.mpr ⟨lw_p33, List.forall_mem_cons.mpr ⟨lw_p34, List.forall_mem_cons.mpr ⟨lw_p35, List.forall_mem_cons.mpr ⟨lw_p36, List.forall_mem_cons.mpr ⟨lw_p37, List.forall_mem_cons.mpr ⟨lw_p38, List.forall_mem_cons.mpr ⟨lw_p39, List.forall_mem_cons.mpr ⟨lw_p40, List.forall_mem_cons.mpr ⟨lw_p41, List.forall_mem_cons.mpr ⟨lw_p42, List.forall_mem_cons.mpr ⟨lw_p43, List.forall_mem_cons.mpr ⟨lw_p44, List.forall_mem_cons.mpr ⟨lw_p45, List.forall_mem_cons.mpr ⟨lw_p46, List.forall_mem_cons.mpr ⟨lw_p47, fun _ h => absurd h List.not_mem_nil⟩⟩⟩⟩⟩⟩⟩⟩⟩⟩⟩⟩⟩⟩⟩⟩
theorem lw_p48 : lw_okq (⟨"NearlySaidModel", "kindlySize", "(I)I"⟩, 23) := ⟨⟨by decide +kernel, by decide +kernel⟩, List.mem_of_getElem? (i := 616) (by decide +kernel), List.mem_of_getElem? (i := 991) (by decide +kernel), List.mem_of_getElem? (i := 992) (by decide +kernel)⟩
theorem lw_p49 : lw_okq (⟨"NearlySaidModel", "lent", "(II)I"⟩, 23) := ⟨⟨by decide +kernel, by decide +kernel⟩, List.mem_of_getElem? (i := 616) (by decide +kernel), List.mem_of_getElem? (i := 995) (by decide +kernel), List.mem_of_getElem? (i := 996) (by decide +kernel)⟩
theorem lw_p50 : lw_okq (⟨"NearlySaidModel", "markOf", "(I)I"⟩, 23) := ⟨⟨by decide +kernel, by decide +kernel⟩, List.mem_of_getElem? (i := 616) (by decide +kernel), List.mem_of_getElem? (i := 999) (by decide +kernel), List.mem_of_getElem? (i := 1000) (by decide +kernel)⟩
theorem lw_p51 : lw_okq (⟨"NearlySaidModel", "kindlyMark", "(I)I"⟩, 23) := ⟨⟨by decide +kernel, by decide +kernel⟩, List.mem_of_getElem? (i := 616) (by decide +kernel), List.mem_of_getElem? (i := 1003) (by decide +kernel), List.mem_of_getElem? (i := 1004) (by decide +kernel)⟩
theorem lw_p52 : lw_okq (⟨"NearlySaidModel", "sizeOfSilent", "(I)I"⟩, 23) := ⟨⟨by decide +kernel, by decide +kernel⟩, List.mem_of_getElem? (i := 616) (by decide +kernel), List.mem_of_getElem? (i := 1007) (by decide +kernel), List.mem_of_getElem? (i := 1008) (by decide +kernel)⟩
theorem lw_p53 : lw_okq (⟨"NearlySaidModel", "silentSize", "(I)I"⟩, 23) := ⟨⟨by decide +kernel, by decide +kernel⟩, List.mem_of_getElem? (i := 616) (by decide +kernel), List.mem_of_getElem? (i := 1011) (by decide +kernel), List.mem_of_getElem? (i := 1012) (by decide +kernel)⟩
def lw_privs_4 : List (MethodName × Nat) := [(⟨"NearlySaidModel", "kindlySize", "(I)I"⟩, 23), (⟨"NearlySaidModel", "lent", "(II)I"⟩, 23), (⟨"NearlySaidModel", "markOf", "(I)I"⟩, 23), (⟨"NearlySaidModel", "kindlyMark", "(I)I"⟩, 23), (⟨"NearlySaidModel", "sizeOfSilent", "(I)I"⟩, 23), (⟨"NearlySaidModel", "silentSize", "(I)I"⟩, 23)]
theorem lw_r4 : ∀ q ∈ lw_privs_4, lw_okq q := List.forall_mem_cons.mpr ⟨lw_p48, List.forall_mem_cons.mpr ⟨lw_p49, List.forall_mem_cons.mpr ⟨lw_p50, List.forall_mem_cons.mpr ⟨lw_p51, List.forall_mem_cons.mpr ⟨lw_p52, List.forall_mem_cons.mpr ⟨lw_p53, fun _ h => absurd h List.not_mem_nil⟩⟩⟩⟩⟩⟩
def lw_privs : List (MethodName × Nat) := lw_privs_1 ++ (lw_privs_2 ++ (lw_privs_3 ++ (lw_privs_4)))
def lw_tbl : List Cond := k2_sels lw_privs ++ tables_1
theorem lw_privs_ok : ∀ q ∈ lw_privs, lw_okq q := by
  show ∀ q ∈ lw_privs_1 ++ (lw_privs_2 ++ (lw_privs_3 ++ (lw_privs_4))), lw_okq q
  exact List.forall_mem_append.mpr ⟨lw_r1, List.forall_mem_append.mpr ⟨lw_r2, List.forall_mem_append.mpr ⟨lw_r3, lw_r4⟩⟩⟩
def RX0 : String := "NearlySaid$Acts"
def TX0 : u_T := fun k => match k with
  | 0 => ("NearlySaid$Acts", "before", "[LNearlySaid$Street;", true)
  | 1 => ("NearlySaid$Acts", "next", "I", false)
  | _ => ("NearlySaid$Acts", "kept", "I", false)
def tyX0 : Nat → FieldType := fun k => match k with
  | 0 => .array (.object "NearlySaid$Street")
  | 1 => .int
  | _ => .int
theorem nmX0 : ∀ a, a < 3 → ∀ b, b < 3 → a ≠ b → (TX0 a).2.1 ≠ (TX0 b).2.1 := by decide +kernel
theorem tyX0_ok : ∀ k, k < 3 → parseFieldDescriptor (TX0 k).2.2.1 = some (tyX0 k) := by decide +kernel
abbrev cX0_init : ByteArray := prog_2_method_1_code
def yX0_init : MethodName := ⟨RX0, "<init>", "()V"⟩
abbrev cX0_keep : ByteArray := prog_2_method_2_code
def yX0_keep : MethodName := ⟨RX0, "keep", "(LNearlySaid$Street;)V"⟩
abbrev cX0_undoLatest : ByteArray := prog_2_method_3_code
def yX0_undoLatest : MethodName := ⟨RX0, "undoLatest", "(LNearlySaid$Street;)Z"⟩
abbrev cX0_forgetAll : ByteArray := prog_2_method_4_code
def yX0_forgetAll : MethodName := ⟨RX0, "forgetAll", "()V"⟩
def RX1 : String := "NearlySaid$Row"
def TX1 : u_T := fun k => match k with
  | 0 => ("NearlySaid$Row", "items", "[I", true)
  | 1 => ("NearlySaid$Row", "lane", "I", false)
  | _ => ("NearlySaid$Row", "size", "I", false)
def tyX1 : Nat → FieldType := fun k => match k with
  | 0 => .array .int
  | 1 => .int
  | _ => .int
theorem nmX1 : ∀ a, a < 3 → ∀ b, b < 3 → a ≠ b → (TX1 a).2.1 ≠ (TX1 b).2.1 := by decide +kernel
theorem tyX1_ok : ∀ k, k < 3 → parseFieldDescriptor (TX1 k).2.2.1 = some (tyX1 k) := by decide +kernel
abbrev cX1_init : ByteArray := prog_3_method_1_code
def yX1_init : MethodName := ⟨RX1, "<init>", "()V"⟩
abbrev cX1_isMissing : ByteArray := prog_3_method_2_code
def yX1_isMissing : MethodName := ⟨RX1, "isMissing", "()Z"⟩
abbrev cX1_begin : ByteArray := prog_3_method_3_code
def yX1_begin : MethodName := ⟨RX1, "begin", "(II)V"⟩
abbrev cX1_has : ByteArray := prog_3_method_4_code
def yX1_has : MethodName := ⟨RX1, "has", "(II)Z"⟩
abbrev cX1_findingOf : ByteArray := prog_3_method_5_code
def yX1_findingOf : MethodName := ⟨RX1, "findingOf", "(II)I"⟩
abbrev cX1_put : ByteArray := prog_3_method_6_code
def yX1_put : MethodName := ⟨RX1, "put", "(II)I"⟩
def RX2 : String := "NearlySaid$Street"
def TX2 : u_T := fun k => match k with
  | 0 => ("NearlySaid$Street", "kind", "[I", true)
  | 1 => ("NearlySaid$Street", "talk", "[I", true)
  | 2 => ("NearlySaid$Street", "keeps", "[I", true)
  | 3 => ("NearlySaid$Street", "bars", "[I", true)
  | 4 => ("NearlySaid$Street", "gutter", "[I", true)
  | 5 => ("NearlySaid$Street", "caught", "[I", true)
  | 6 => ("NearlySaid$Street", "step", "I", false)
  | 7 => ("NearlySaid$Street", "plank", "I", false)
  | 8 => ("NearlySaid$Street", "houses", "I", false)
  | 9 => ("NearlySaid$Street", "minute", "I", false)
  | 10 => ("NearlySaid$Street", "pond", "I", false)
  | _ => ("NearlySaid$Street", "hushed", "I", false)
def tyX2 : Nat → FieldType := fun k => match k with
  | 0 => .array .int
  | 1 => .array .int
  | 2 => .array .int
  | 3 => .array .int
  | 4 => .array .int
  | 5 => .array .int
  | 6 => .int
  | 7 => .int
  | 8 => .int
  | 9 => .int
  | 10 => .int
  | _ => .int
theorem nmX2 : ∀ a, a < 12 → ∀ b, b < 12 → a ≠ b → (TX2 a).2.1 ≠ (TX2 b).2.1 := by decide +kernel
theorem tyX2_ok : ∀ k, k < 12 → parseFieldDescriptor (TX2 k).2.2.1 = some (tyX2 k) := by decide +kernel
abbrev cX2_init : ByteArray := prog_4_method_1_code
def yX2_init : MethodName := ⟨RX2, "<init>", "()V"⟩
abbrev cX2_stands : ByteArray := prog_4_method_2_code
def yX2_stands : MethodName := ⟨RX2, "stands", "()Z"⟩
abbrev cX2_takeFrom : ByteArray := prog_4_method_3_code
def yX2_takeFrom : MethodName := ⟨RX2, "takeFrom", "(LNearlySaid$Street;)V"⟩
abbrev cX2_begin : ByteArray := prog_4_method_4_code
def yX2_begin : MethodName := ⟨RX2, "begin", "(II)V"⟩
abbrev cX2_hasRoom : ByteArray := prog_4_method_5_code
def yX2_hasRoom : MethodName := ⟨RX2, "hasRoom", "()Z"⟩
abbrev cX2_build : ByteArray := prog_4_method_6_code
def yX2_build : MethodName := ⟨RX2, "build", "(IIII)V"⟩
abbrev cX2_putBars : ByteArray := prog_4_method_7_code
def yX2_putBars : MethodName := ⟨RX2, "putBars", "(II)V"⟩
abbrev cX2_lowerPond : ByteArray := prog_4_method_8_code
def yX2_lowerPond : MethodName := ⟨RX2, "lowerPond", "(I)V"⟩
abbrev cX2_takeDraw : ByteArray := prog_4_method_9_code
def yX2_takeDraw : MethodName := ⟨RX2, "takeDraw", "(I)V"⟩
abbrev cX2_isHushed : ByteArray := prog_4_method_10_code
def yX2_isHushed : MethodName := ⟨RX2, "isHushed", "(I)Z"⟩
abbrev cX2_shedsOf : ByteArray := prog_4_method_11_code
def yX2_shedsOf : MethodName := ⟨RX2, "shedsOf", "(I)I"⟩
abbrev cX2_passMinutes : ByteArray := prog_4_method_12_code
def yX2_passMinutes : MethodName := ⟨RX2, "passMinutes", "(I)V"⟩
abbrev cX2_passMinute : ByteArray := prog_4_method_13_code
def yX2_passMinute : MethodName := ⟨RX2, "passMinute", "()V"⟩
abbrev cX2_flowOf : ByteArray := prog_4_method_14_code
def yX2_flowOf : MethodName := ⟨RX2, "flowOf", "(I)I"⟩
abbrev cX2_behindBars : ByteArray := prog_4_method_15_code
def yX2_behindBars : MethodName := ⟨RX2, "behindBars", "(II)I"⟩
abbrev cX2_isOverPlank : ByteArray := prog_4_method_16_code
def yX2_isOverPlank : MethodName := ⟨RX2, "isOverPlank", "()Z"⟩
abbrev cX2_isClearAt : ByteArray := prog_4_method_17_code
def yX2_isClearAt : MethodName := ⟨RX2, "isClearAt", "(I)Z"⟩
abbrev cX2_firstFullBars : ByteArray := prog_4_method_18_code
def yX2_firstFullBars : MethodName := ⟨RX2, "firstFullBars", "()I"⟩
abbrev cX2_caughtInAll : ByteArray := prog_4_method_19_code
def yX2_caughtInAll : MethodName := ⟨RX2, "caughtInAll", "()I"⟩
abbrev cX2_inAllGutters : ByteArray := prog_4_method_20_code
def yX2_inAllGutters : MethodName := ⟨RX2, "inAllGutters", "()I"⟩
abbrev cX2_dryGutters : ByteArray := prog_4_method_21_code
def yX2_dryGutters : MethodName := ⟨RX2, "dryGutters", "()I"⟩
def RX3 : String := "NearlySaid$Tape"
def TX3 : u_T := fun k => match k with
  | 0 => ("NearlySaid$Tape", "bytes", "[I", true)
  | 1 => ("NearlySaid$Tape", "length", "I", false)
  | 2 => ("NearlySaid$Tape", "at", "I", false)
  | 3 => ("NearlySaid$Tape", "fault", "I", false)
  | 4 => ("NearlySaid$Tape", "behind", "I", false)
  | 5 => ("NearlySaid$Tape", "token", "I", false)
  | 6 => ("NearlySaid$Tape", "value", "I", false)
  | _ => ("NearlySaid$Tape", "taken", "I", false)
def tyX3 : Nat → FieldType := fun k => match k with
  | 0 => .array .int
  | 1 => .int
  | 2 => .int
  | 3 => .int
  | 4 => .int
  | 5 => .int
  | 6 => .int
  | _ => .int
theorem nmX3 : ∀ a, a < 8 → ∀ b, b < 8 → a ≠ b → (TX3 a).2.1 ≠ (TX3 b).2.1 := by decide +kernel
theorem tyX3_ok : ∀ k, k < 8 → parseFieldDescriptor (TX3 k).2.2.1 = some (tyX3 k) := by decide +kernel
abbrev cX3_init : ByteArray := prog_5_method_1_code
def yX3_init : MethodName := ⟨RX3, "<init>", "()V"⟩
abbrev cX3_add : ByteArray := prog_5_method_2_code
def yX3_add : MethodName := ⟨RX3, "add", "(I)Z"⟩
abbrev cX3_readStreet : ByteArray := prog_5_method_3_code
def yX3_readStreet : MethodName := ⟨RX3, "readStreet", "(LNearlySaid$Street;)Z"⟩
abbrev cX3_readLaw : ByteArray := prog_5_method_4_code
def yX3_readLaw : MethodName := ⟨RX3, "readLaw", "(LNearlySaid$Street;)Z"⟩
abbrev cX3_readHouse : ByteArray := prog_5_method_5_code
def yX3_readHouse : MethodName := ⟨RX3, "readHouse", "(LNearlySaid$Street;)Z"⟩
abbrev cX3_kindOfSort : ByteArray := prog_5_method_6_code
def yX3_kindOfSort : MethodName := ⟨RX3, "kindOfSort", "(I)I"⟩
abbrev cX3_takesByte : ByteArray := prog_5_method_7_code
def yX3_takesByte : MethodName := ⟨RX3, "takesByte", "(I)Z"⟩
abbrev cX3_takesNumber : ByteArray := prog_5_method_8_code
def yX3_takesNumber : MethodName := ⟨RX3, "takesNumber", "(II)Z"⟩
abbrev cX3_fails : ByteArray := prog_5_method_9_code
def yX3_fails : MethodName := ⟨RX3, "fails", "(I)Z"⟩
abbrev cX3_advance : ByteArray := prog_5_method_10_code
def yX3_advance : MethodName := ⟨RX3, "advance", "()V"⟩
abbrev cX3_readFigures : ByteArray := prog_5_method_11_code
def yX3_readFigures : MethodName := ⟨RX3, "readFigures", "()V"⟩
abbrev cX3_isFigure : ByteArray := prog_5_method_12_code
def yX3_isFigure : MethodName := ⟨RX3, "isFigure", "(I)Z"⟩
def RX4 : String := "NearlySaid"
def TX4 : u_T := fun k => match k with
  | 0 => ("NearlySaid", "rows", "[LNearlySaid$Row;", true)
  | 1 => ("NearlySaid", "tape", "LNearlySaid$Tape;", true)
  | 2 => ("NearlySaid", "now", "LNearlySaid$Street;", true)
  | 3 => ("NearlySaid", "foreseen", "LNearlySaid$Street;", true)
  | 4 => ("NearlySaid", "acts", "LNearlySaid$Acts;", true)
  | 5 => ("NearlySaid", "images", "[LNearlySaid$Street;", true)
  | 6 => ("NearlySaid", "trace", "[I", true)
  | 7 => ("NearlySaid", "traced", "I", false)
  | 8 => ("NearlySaid", "latestFault", "I", false)
  | _ => ("NearlySaid", "latestFinding", "I", false)
def tyX4 : Nat → FieldType := fun k => match k with
  | 0 => .array (.object "NearlySaid$Row")
  | 1 => .object "NearlySaid$Tape"
  | 2 => .object "NearlySaid$Street"
  | 3 => .object "NearlySaid$Street"
  | 4 => .object "NearlySaid$Acts"
  | 5 => .array (.object "NearlySaid$Street")
  | 6 => .array .int
  | 7 => .int
  | 8 => .int
  | _ => .int
theorem nmX4 : ∀ a, a < 10 → ∀ b, b < 10 → a ≠ b → (TX4 a).2.1 ≠ (TX4 b).2.1 := by decide +kernel
theorem tyX4_ok : ∀ k, k < 10 → parseFieldDescriptor (TX4 k).2.2.1 = some (tyX4 k) := by decide +kernel
abbrev cX4_init : ByteArray := prog_1_method_1_code
def yX4_init : MethodName := ⟨RX4, "<init>", "()V"⟩
abbrev cX4_row : ByteArray := prog_1_method_2_code
def yX4_row : MethodName := ⟨RX4, "row", "(III)I"⟩
abbrev cX4_set : ByteArray := prog_1_method_3_code
def yX4_set : MethodName := ⟨RX4, "set", "(III)I"⟩
abbrev cX4_copy : ByteArray := prog_1_method_4_code
def yX4_copy : MethodName := ⟨RX4, "copy", "(IIIII)I"⟩
abbrev cX4_drop : ByteArray := prog_1_method_5_code
def yX4_drop : MethodName := ⟨RX4, "drop", "(I)I"⟩
abbrev cX4_feed : ByteArray := prog_1_method_6_code
def yX4_feed : MethodName := ⟨RX4, "feed", "(I)I"⟩
abbrev cX4_street : ByteArray := prog_1_method_7_code
def yX4_street : MethodName := ⟨RX4, "street", "()I"⟩
abbrev cX4_fault : ByteArray := prog_1_method_8_code
def yX4_fault : MethodName := ⟨RX4, "fault", "()I"⟩
abbrev cX4_undo : ByteArray := prog_1_method_9_code
def yX4_undo : MethodName := ⟨RX4, "undo", "()I"⟩
abbrev cX4_minutes : ByteArray := prog_1_method_10_code
def yX4_minutes : MethodName := ⟨RX4, "minutes", "(I)I"⟩
abbrev cX4_talk : ByteArray := prog_1_method_11_code
def yX4_talk : MethodName := ⟨RX4, "talk", "(II)I"⟩
abbrev cX4_hush : ByteArray := prog_1_method_12_code
def yX4_hush : MethodName := ⟨RX4, "hush", "(II)I"⟩
abbrev cX4_bars : ByteArray := prog_1_method_13_code
def yX4_bars : MethodName := ⟨RX4, "bars", "(II)I"⟩
abbrev cX4_letDown : ByteArray := prog_1_method_14_code
def yX4_letDown : MethodName := ⟨RX4, "letDown", "(I)I"⟩
abbrev cX4_house : ByteArray := prog_1_method_15_code
def yX4_house : MethodName := ⟨RX4, "house", "(II)I"⟩
abbrev cX4_stand : ByteArray := prog_1_method_16_code
def yX4_stand : MethodName := ⟨RX4, "stand", "(I)I"⟩
abbrev cX4_ahead : ByteArray := prog_1_method_17_code
def yX4_ahead : MethodName := ⟨RX4, "ahead", "(II)I"⟩
abbrev cX4_pond : ByteArray := prog_1_method_18_code
def yX4_pond : MethodName := ⟨RX4, "pond", "(II)I"⟩
abbrev cX4_over : ByteArray := prog_1_method_19_code
def yX4_over : MethodName := ⟨RX4, "over", "()I"⟩
abbrev cX4_full : ByteArray := prog_1_method_20_code
def yX4_full : MethodName := ⟨RX4, "full", "(I)I"⟩
abbrev cX4_most : ByteArray := prog_1_method_21_code
def yX4_most : MethodName := ⟨RX4, "most", "(III)I"⟩
abbrev cX4_hushes : ByteArray := prog_1_method_22_code
def yX4_hushes : MethodName := ⟨RX4, "hushes", "(III)I"⟩
abbrev cX4_spares : ByteArray := prog_1_method_23_code
def yX4_spares : MethodName := ⟨RX4, "spares", "(II)I"⟩
abbrev cX4_catches : ByteArray := prog_1_method_24_code
def yX4_catches : MethodName := ⟨RX4, "catches", "(II)I"⟩
abbrev cX4_from : ByteArray := prog_1_method_25_code
def yX4_from : MethodName := ⟨RX4, "from", "(II)I"⟩
abbrev cX4_loud : ByteArray := prog_1_method_26_code
def yX4_loud : MethodName := ⟨RX4, "loud", "(II)I"⟩
abbrev cX4_dry : ByteArray := prog_1_method_27_code
def yX4_dry : MethodName := ⟨RX4, "dry", "()I"⟩
abbrev cX4_lag : ByteArray := prog_1_method_28_code
def yX4_lag : MethodName := ⟨RX4, "lag", "(I)I"⟩
abbrev cX4_who : ByteArray := prog_1_method_29_code
def yX4_who : MethodName := ⟨RX4, "who", "(IIIIII)I"⟩
abbrev cX4_silent : ByteArray := prog_1_method_30_code
def yX4_silent : MethodName := ⟨RX4, "silent", "(IIII)I"⟩
abbrev cX4_hushed : ByteArray := prog_1_method_31_code
def yX4_hushed : MethodName := ⟨RX4, "hushed", "(III)J"⟩
abbrev cX4_drawn : ByteArray := prog_1_method_32_code
def yX4_drawn : MethodName := ⟨RX4, "drawn", "(III)I"⟩
abbrev cX4_image : ByteArray := prog_1_method_33_code
def yX4_image : MethodName := ⟨RX4, "image", "(I)I"⟩
abbrev cX4_restore : ByteArray := prog_1_method_34_code
def yX4_restore : MethodName := ⟨RX4, "restore", "(I)I"⟩
abbrev cX4_kind : ByteArray := prog_1_method_35_code
def yX4_kind : MethodName := ⟨RX4, "kind", "(I)I"⟩
abbrev cX4_as : ByteArray := prog_1_method_36_code
def yX4_as : MethodName := ⟨RX4, "as", "(II)I"⟩
abbrev cX4_ask : ByteArray := prog_1_method_37_code
def yX4_ask : MethodName := ⟨RX4, "ask", "(II)I"⟩
abbrev cX4_trace : ByteArray := prog_1_method_38_code
def yX4_trace : MethodName := ⟨RX4, "trace", "(I)I"⟩
abbrev cX4_count : ByteArray := prog_1_method_39_code
def yX4_count : MethodName := ⟨RX4, "count", "(I)I"⟩
abbrev cX4_status : ByteArray := prog_1_method_40_code
def yX4_status : MethodName := ⟨RX4, "status", "()I"⟩
abbrev cX4_isWithin : ByteArray := prog_1_method_41_code
def yX4_isWithin : MethodName := ⟨RX4, "isWithin", "(III)Z"⟩
abbrev cX4_isRow : ByteArray := prog_1_method_42_code
def yX4_isRow : MethodName := ⟨RX4, "isRow", "(I)Z"⟩
abbrev cX4_isHouse : ByteArray := prog_1_method_43_code
def yX4_isHouse : MethodName := ⟨RX4, "isHouse", "(I)Z"⟩
abbrev cX4_found : ByteArray := prog_1_method_44_code
def yX4_found : MethodName := ⟨RX4, "found", "(I)I"⟩
abbrev cX4_unfound : ByteArray := prog_1_method_45_code
def yX4_unfound : MethodName := ⟨RX4, "unfound", "(I)I"⟩
abbrev cX4_rowsThere : ByteArray := prog_1_method_46_code
def yX4_rowsThere : MethodName := ⟨RX4, "rowsThere", "()I"⟩
abbrev cX4_foreseeHushed : ByteArray := prog_1_method_47_code
def yX4_foreseeHushed : MethodName := ⟨RX4, "foreseeHushed", "(II)V"⟩
abbrev cX4_fewestToHush : ByteArray := prog_1_method_48_code
def yX4_fewestToHush : MethodName := ⟨RX4, "fewestToHush", "(II)I"⟩
abbrev cX4_howManyOrWhich : ByteArray := prog_1_method_49_code
def yX4_howManyOrWhich : MethodName := ⟨RX4, "howManyOrWhich", "(II)I"⟩
abbrev cX4_isAsTold : ByteArray := prog_1_method_50_code
def yX4_isAsTold : MethodName := ⟨RX4, "isAsTold", "(ILNearlySaid$Row;II)Z"⟩
abbrev cX4_allThatFit : ByteArray := prog_1_method_51_code
def yX4_allThatFit : MethodName := ⟨RX4, "allThatFit", "(IIILNearlySaid$Row;II)I"⟩
abbrev cX4_silentOnesThatFit : ByteArray := prog_1_method_52_code
def yX4_silentOnesThatFit : MethodName := ⟨RX4, "silentOnesThatFit", "(ILNearlySaid$Row;II)I"⟩
abbrev cX4_casesOverPlank : ByteArray := prog_1_method_53_code
def yX4_casesOverPlank : MethodName := ⟨RX4, "casesOverPlank", "(II)J"⟩
abbrev cX4_power : ByteArray := prog_1_method_54_code
def yX4_power : MethodName := ⟨RX4, "power", "(JI)J"⟩
abbrev cX4_commonDivisor : ByteArray := prog_1_method_55_code
def yX4_commonDivisor : MethodName := ⟨RX4, "commonDivisor", "(JJ)J"⟩
abbrev cX4_shedBy : ByteArray := prog_1_method_56_code
def yX4_shedBy : MethodName := ⟨RX4, "shedBy", "(IIII)I"⟩
abbrev cX4_isSuch : ByteArray := prog_1_method_57_code
def yX4_isSuch : MethodName := ⟨RX4, "isSuch", "(II)Z"⟩
abbrev cX4_bodyFor : ByteArray := prog_1_method_58_code
def yX4_bodyFor : MethodName := ⟨RX4, "bodyFor", "(II)I"⟩
abbrev cX4_answerOf : ByteArray := prog_1_method_59_code
def yX4_answerOf : MethodName := ⟨RX4, "answerOf", "(III)I"⟩
abbrev cX4_given : ByteArray := prog_1_method_60_code
def yX4_given : MethodName := ⟨RX4, "given", "(III)I"⟩
abbrev cX4_leaveTrace : ByteArray := prog_1_method_61_code
def yX4_leaveTrace : MethodName := ⟨RX4, "leaveTrace", "(I)V"⟩
def RX5 : String := "NearlySaidModel"
def TX5 : u_T := fun k => match k with
  | 0 => ("NearlySaidModel", "lanes", "[I", true)
  | 1 => ("NearlySaidModel", "sizes", "[I", true)
  | 2 => ("NearlySaidModel", "items", "[I", true)
  | 3 => ("NearlySaidModel", "status", "I", false)
  | 4 => ("NearlySaidModel", "isThere", "Z", false)
  | 5 => ("NearlySaidModel", "st", "[I", true)
  | 6 => ("NearlySaidModel", "moved", "[I", true)
  | 7 => ("NearlySaidModel", "tape", "[I", true)
  | 8 => ("NearlySaidModel", "bytes", "I", false)
  | 9 => ("NearlySaidModel", "latest", "I", false)
  | 10 => ("NearlySaidModel", "place", "I", false)
  | 11 => ("NearlySaidModel", "token", "I", false)
  | 12 => ("NearlySaidModel", "value", "I", false)
  | 13 => ("NearlySaidModel", "begins", "I", false)
  | 14 => ("NearlySaidModel", "wrong", "I", false)
  | 15 => ("NearlySaidModel", "read", "[I", true)
  | 16 => ("NearlySaidModel", "acts", "[I", true)
  | 17 => ("NearlySaidModel", "actMany", "I", false)
  | 18 => ("NearlySaidModel", "aside", "[I", true)
  | 19 => ("NearlySaidModel", "isKept", "[Z", true)
  | 20 => ("NearlySaidModel", "kept", "[I", true)
  | 21 => ("NearlySaidModel", "trace", "[I", true)
  | _ => ("NearlySaidModel", "traced", "I", false)
def tyX5 : Nat → FieldType := fun k => match k with
  | 0 => .array .int
  | 1 => .array .int
  | 2 => .array .int
  | 3 => .int
  | 4 => .boolean
  | 5 => .array .int
  | 6 => .array .int
  | 7 => .array .int
  | 8 => .int
  | 9 => .int
  | 10 => .int
  | 11 => .int
  | 12 => .int
  | 13 => .int
  | 14 => .int
  | 15 => .array .int
  | 16 => .array .int
  | 17 => .int
  | 18 => .array .int
  | 19 => .array .boolean
  | 20 => .array .int
  | 21 => .array .int
  | _ => .int
theorem nmX5 : ∀ a, a < 23 → ∀ b, b < 23 → a ≠ b → (TX5 a).2.1 ≠ (TX5 b).2.1 := by decide +kernel
theorem tyX5_ok : ∀ k, k < 23 → parseFieldDescriptor (TX5 k).2.2.1 = some (tyX5 k) := by decide +kernel
abbrev cX5_init : ByteArray := prog_7_method_1_code
def yX5_init : MethodName := ⟨RX5, "<init>", "()V"⟩
abbrev cX5_in : ByteArray := prog_7_method_2_code
def yX5_in : MethodName := ⟨RX5, "in", "(JJJ)Z"⟩
abbrev cX5_has : ByteArray := prog_7_method_3_code
def yX5_has : MethodName := ⟨RX5, "has", "(II)Z"⟩
abbrev cX5_ones : ByteArray := prog_7_method_4_code
def yX5_ones : MethodName := ⟨RX5, "ones", "(I)I"⟩
abbrev cX5_find : ByteArray := prog_7_method_5_code
def yX5_find : MethodName := ⟨RX5, "find", "(I)I"⟩
abbrev cX5_well : ByteArray := prog_7_method_6_code
def yX5_well : MethodName := ⟨RX5, "well", "(I)I"⟩
abbrev cX5_isRow : ByteArray := prog_7_method_7_code
def yX5_isRow : MethodName := ⟨RX5, "isRow", "(I)Z"⟩
abbrev cX5_row : ByteArray := prog_7_method_8_code
def yX5_row : MethodName := ⟨RX5, "row", "(III)I"⟩
abbrev cX5_asLane : ByteArray := prog_7_method_9_code
def yX5_asLane : MethodName := ⟨RX5, "asLane", "(II)I"⟩
abbrev cX5_set : ByteArray := prog_7_method_10_code
def yX5_set : MethodName := ⟨RX5, "set", "(III)I"⟩
abbrev cX5_copy : ByteArray := prog_7_method_11_code
def yX5_copy : MethodName := ⟨RX5, "copy", "(IIIII)I"⟩
abbrev cX5_drop : ByteArray := prog_7_method_12_code
def yX5_drop : MethodName := ⟨RX5, "drop", "(I)I"⟩
abbrev cX5_feed : ByteArray := prog_7_method_13_code
def yX5_feed : MethodName := ⟨RX5, "feed", "(I)I"⟩
abbrev cX5_nextToken : ByteArray := prog_7_method_14_code
def yX5_nextToken : MethodName := ⟨RX5, "nextToken", "()V"⟩
abbrev cX5_faults : ByteArray := prog_7_method_15_code
def yX5_faults : MethodName := ⟨RX5, "faults", "(I)Z"⟩
abbrev cX5_isLetter : ByteArray := prog_7_method_16_code
def yX5_isLetter : MethodName := ⟨RX5, "isLetter", "(I)Z"⟩
abbrev cX5_takes : ByteArray := prog_7_method_17_code
def yX5_takes : MethodName := ⟨RX5, "takes", "(I)Z"⟩
abbrev cX5_takesNumber : ByteArray := prog_7_method_18_code
def yX5_takesNumber : MethodName := ⟨RX5, "takesNumber", "(IIII)Z"⟩
abbrev cX5_readHouse : ByteArray := prog_7_method_19_code
def yX5_readHouse : MethodName := ⟨RX5, "readHouse", "()Z"⟩
abbrev cX5_readStreet : ByteArray := prog_7_method_20_code
def yX5_readStreet : MethodName := ⟨RX5, "readStreet", "()Z"⟩
abbrev cX5_street : ByteArray := prog_7_method_21_code
def yX5_street : MethodName := ⟨RX5, "street", "()I"⟩
abbrev cX5_fault : ByteArray := prog_7_method_22_code
def yX5_fault : MethodName := ⟨RX5, "fault", "()I"⟩
abbrev cX5_isHouse : ByteArray := prog_7_method_23_code
def yX5_isHouse : MethodName := ⟨RX5, "isHouse", "(I)Z"⟩
abbrev cX5_shedsOf : ByteArray := prog_7_method_24_code
def yX5_shedsOf : MethodName := ⟨RX5, "shedsOf", "(I)I"⟩
abbrev cX5_oneMinute : ByteArray := prog_7_method_25_code
def yX5_oneMinute : MethodName := ⟨RX5, "oneMinute", "()V"⟩
abbrev cX5_sumOf : ByteArray := prog_7_method_26_code
def yX5_sumOf : MethodName := ⟨RX5, "sumOf", "(I)I"⟩
abbrev cX5_letOff : ByteArray := prog_7_method_27_code
def yX5_letOff : MethodName := ⟨RX5, "letOff", "(I)V"⟩
abbrev cX5_isOver : ByteArray := prog_7_method_28_code
def yX5_isOver : MethodName := ⟨RX5, "isOver", "()Z"⟩
abbrev cX5_note : ByteArray := prog_7_method_29_code
def yX5_note : MethodName := ⟨RX5, "note", "()V"⟩
abbrev cX5_undo : ByteArray := prog_7_method_30_code
def yX5_undo : MethodName := ⟨RX5, "undo", "()I"⟩
abbrev cX5_minutes : ByteArray := prog_7_method_31_code
def yX5_minutes : MethodName := ⟨RX5, "minutes", "(I)I"⟩
abbrev cX5_talk : ByteArray := prog_7_method_32_code
def yX5_talk : MethodName := ⟨RX5, "talk", "(II)I"⟩
abbrev cX5_hush : ByteArray := prog_7_method_33_code
def yX5_hush : MethodName := ⟨RX5, "hush", "(II)I"⟩
abbrev cX5_bars : ByteArray := prog_7_method_34_code
def yX5_bars : MethodName := ⟨RX5, "bars", "(II)I"⟩
abbrev cX5_letDown : ByteArray := prog_7_method_35_code
def yX5_letDown : MethodName := ⟨RX5, "letDown", "(I)I"⟩
abbrev cX5_house : ByteArray := prog_7_method_36_code
def yX5_house : MethodName := ⟨RX5, "house", "(II)I"⟩
abbrev cX5_stand : ByteArray := prog_7_method_37_code
def yX5_stand : MethodName := ⟨RX5, "stand", "(I)I"⟩
abbrev cX5_putAside : ByteArray := prog_7_method_38_code
def yX5_putAside : MethodName := ⟨RX5, "putAside", "()V"⟩
abbrev cX5_takeBack : ByteArray := prog_7_method_39_code
def yX5_takeBack : MethodName := ⟨RX5, "takeBack", "()V"⟩
abbrev cX5_goOn : ByteArray := prog_7_method_40_code
def yX5_goOn : MethodName := ⟨RX5, "goOn", "(I)V"⟩
abbrev cX5_isWhat : ByteArray := prog_7_method_41_code
def yX5_isWhat : MethodName := ⟨RX5, "isWhat", "(I)Z"⟩
abbrev cX5_ahead : ByteArray := prog_7_method_42_code
def yX5_ahead : MethodName := ⟨RX5, "ahead", "(II)I"⟩
abbrev cX5_pond : ByteArray := prog_7_method_43_code
def yX5_pond : MethodName := ⟨RX5, "pond", "(II)I"⟩
abbrev cX5_over : ByteArray := prog_7_method_44_code
def yX5_over : MethodName := ⟨RX5, "over", "()I"⟩
abbrev cX5_fullNow : ByteArray := prog_7_method_45_code
def yX5_fullNow : MethodName := ⟨RX5, "fullNow", "()I"⟩
abbrev cX5_full : ByteArray := prog_7_method_46_code
def yX5_full : MethodName := ⟨RX5, "full", "(I)I"⟩
abbrev cX5_most : ByteArray := prog_7_method_47_code
def yX5_most : MethodName := ⟨RX5, "most", "(III)I"⟩
abbrev cX5_quietBy : ByteArray := prog_7_method_48_code
def yX5_quietBy : MethodName := ⟨RX5, "quietBy", "(II)I"⟩
abbrev cX5_hushes : ByteArray := prog_7_method_49_code
def yX5_hushes : MethodName := ⟨RX5, "hushes", "(III)I"⟩
abbrev cX5_spares : ByteArray := prog_7_method_50_code
def yX5_spares : MethodName := ⟨RX5, "spares", "(II)I"⟩
abbrev cX5_pondBy : ByteArray := prog_7_method_51_code
def yX5_pondBy : MethodName := ⟨RX5, "pondBy", "(I)I"⟩
abbrev cX5_catches : ByteArray := prog_7_method_52_code
def yX5_catches : MethodName := ⟨RX5, "catches", "(II)I"⟩
abbrev cX5_from : ByteArray := prog_7_method_53_code
def yX5_from : MethodName := ⟨RX5, "from", "(II)I"⟩
abbrev cX5_loud : ByteArray := prog_7_method_54_code
def yX5_loud : MethodName := ⟨RX5, "loud", "(II)I"⟩
abbrev cX5_dry : ByteArray := prog_7_method_55_code
def yX5_dry : MethodName := ⟨RX5, "dry", "()I"⟩
abbrev cX5_lag : ByteArray := prog_7_method_56_code
def yX5_lag : MethodName := ⟨RX5, "lag", "(I)I"⟩
abbrev cX5_lacks : ByteArray := prog_7_method_57_code
def yX5_lacks : MethodName := ⟨RX5, "lacks", "(III)I"⟩
abbrev cX5_isSo : ByteArray := prog_7_method_58_code
def yX5_isSo : MethodName := ⟨RX5, "isSo", "(III)Z"⟩
abbrev cX5_who : ByteArray := prog_7_method_59_code
def yX5_who : MethodName := ⟨RX5, "who", "(IIIIII)I"⟩
abbrev cX5_silent : ByteArray := prog_7_method_60_code
def yX5_silent : MethodName := ⟨RX5, "silent", "(IIII)I"⟩
abbrev cX5_hushed : ByteArray := prog_7_method_61_code
def yX5_hushed : MethodName := ⟨RX5, "hushed", "(III)J"⟩
abbrev cX5_drawn : ByteArray := prog_7_method_62_code
def yX5_drawn : MethodName := ⟨RX5, "drawn", "(III)I"⟩
abbrev cX5_image : ByteArray := prog_7_method_63_code
def yX5_image : MethodName := ⟨RX5, "image", "(I)I"⟩
abbrev cX5_restore : ByteArray := prog_7_method_64_code
def yX5_restore : MethodName := ⟨RX5, "restore", "(I)I"⟩
abbrev cX5_kind : ByteArray := prog_7_method_65_code
def yX5_kind : MethodName := ⟨RX5, "kind", "(I)I"⟩
abbrev cX5_isKind : ByteArray := prog_7_method_66_code
def yX5_isKind : MethodName := ⟨RX5, "isKind", "(II)Z"⟩
abbrev cX5_as : ByteArray := prog_7_method_67_code
def yX5_as : MethodName := ⟨RX5, "as", "(II)I"⟩
abbrev cX5_begin : ByteArray := prog_7_method_68_code
def yX5_begin : MethodName := ⟨RX5, "begin", "(I)V"⟩
abbrev cX5_lent : ByteArray := prog_7_method_69_code
def yX5_lent : MethodName := ⟨RX5, "lent", "(II)I"⟩
abbrev cX5_kindlyMark : ByteArray := prog_7_method_70_code
def yX5_kindlyMark : MethodName := ⟨RX5, "kindlyMark", "(I)I"⟩
abbrev cX5_silentSize : ByteArray := prog_7_method_71_code
def yX5_silentSize : MethodName := ⟨RX5, "silentSize", "(I)I"⟩
abbrev cX5_sizeOfSilent : ByteArray := prog_7_method_72_code
def yX5_sizeOfSilent : MethodName := ⟨RX5, "sizeOfSilent", "(I)I"⟩
abbrev cX5_markOf : ByteArray := prog_7_method_73_code
def yX5_markOf : MethodName := ⟨RX5, "markOf", "(I)I"⟩
abbrev cX5_kindlySize : ByteArray := prog_7_method_74_code
def yX5_kindlySize : MethodName := ⟨RX5, "kindlySize", "(I)I"⟩
abbrev cX5_sizeOf : ByteArray := prog_7_method_75_code
def yX5_sizeOf : MethodName := ⟨RX5, "sizeOf", "(I)I"⟩
abbrev cX5_ask : ByteArray := prog_7_method_76_code
def yX5_ask : MethodName := ⟨RX5, "ask", "(II)I"⟩
abbrev cX5_trace : ByteArray := prog_7_method_77_code
def yX5_trace : MethodName := ⟨RX5, "trace", "(I)I"⟩
abbrev cX5_count : ByteArray := prog_7_method_78_code
def yX5_count : MethodName := ⟨RX5, "count", "(I)I"⟩
abbrev cX5_status : ByteArray := prog_7_method_79_code
def yX5_status : MethodName := ⟨RX5, "status", "()I"⟩
def RJ6 : String := "java/lang/Integer"
abbrev cJ6_bitCount_0f7a4 : ByteArray := prog_8_method_49_code
def yJ6_bitCount_0f7a4 : MethodName := ⟨RJ6, "bitCount", "(I)I"⟩
def RJ9 : String := "java/lang/Math"
abbrev cJ9_max_7cf53 : ByteArray := prog_9_method_65_code
def yJ9_max_7cf53 : MethodName := ⟨RJ9, "max", "(II)I"⟩
abbrev cJ9_min_7cf53 : ByteArray := prog_9_method_69_code
def yJ9_min_7cf53 : MethodName := ⟨RJ9, "min", "(II)I"⟩
def RJ7 : String := "java/util/Arrays"
abbrev cJ7_fill_53178 : ByteArray := prog_11_method_103_code
def yJ7_fill_53178 : MethodName := ⟨RJ7, "fill", "([II)V"⟩
def RL : String := "NearlySaidLaw"
abbrev cL_law : ByteArray := code
def yL_law : MethodName := ⟨RL, "law", "([I)Z"⟩
abbrev vwCl : List vw_C := [(RX0, TX0, 3), (RX1, TX1, 3), (RX2, TX2, 12), (RX3, TX3, 8), (RX4, TX4, 10), (RX5, TX5, 23)]
def mj_T : List Cond := lw_tbl.filter goodWord
theorem tb_k {i : Nat} {w : Cond} (h : tables_1[i]? = some w) (g : goodWord w = true) : w ∈ mj_T := List.mem_filter.mpr ⟨List.mem_append_right _ (List.mem_of_getElem? h), g⟩
theorem tb_p {i : Nat} {w : Cond} (h : (k2_sels lw_privs)[i]? = some w) (g : goodWord w = true) : w ∈ mj_T := List.mem_filter.mpr ⟨List.mem_append_left _ (List.mem_of_getElem? h), g⟩
theorem tb_all {ws : List Cond} (ps : List Nat) (hp : ws = ps.filterMap (fun i => tables_1[i]?)) (h : ws.all goodWord = true) : ∀ w ∈ ws, w ∈ mj_T := by
  intro w hw
  have h1 := List.all_eq_true.mp h w hw
  rw [hp] at hw
  obtain ⟨i, -, hi⟩ := List.mem_filterMap.mp hw
  exact tb_k hi h1
abbrev mj_M : Type := MethodName × ByteArray × Nat × Option FieldType
def mj_okM (M : mj_M) (n : Nat) : Prop := Cond.code M.1 M.2.1 M.2.2.1 M.2.2.2 ∈ mj_T ∧ Cond.initialized M.1.cls ∈ mj_T ∧ plainName M.1.cls = true ∧ (M.1.cls ≠ "java/lang/invoke/MethodHandle" ∧ M.1.cls ≠ "java/lang/invoke/VarHandle" ∧ (parseMethodDescriptor M.1.desc).map (fun d => d.parameters.length) = some n) ∧ M.2.2.1 ≤ 21
def mj_okS (M : mj_M) (n : Nat) : Prop := mj_okM M n ∧ Cond.static M.1 ∈ mj_T
def mj_okV (M : mj_M) (n : Nat) : Prop := mj_okM M n ∧ Cond.instanceMethod M.1 ∈ mj_T ∧ Cond.selects M.1.cls M.1 M.1 ∈ mj_T
def mj_okI (M : mj_M) (n : Nat) : Prop := mj_okM M n ∧ Cond.instanceMethod M.1 ∈ mj_T ∧ M.1.name = "<init>"
def MX0_init : mj_M := (yX0_init, cX0_init, 2, none)
theorem okX0_init : mj_okI MX0_init 0 := ⟨⟨tb_k (i := 113) (by decide +kernel) (by decide +kernel), tb_k (i := 4) (by decide +kernel) (by decide +kernel), (by decide +kernel), ⟨(by decide +kernel), (by decide +kernel), (by decide +kernel)⟩, (by decide +kernel)⟩, tb_k (i := 112) (by decide +kernel) (by decide +kernel), rfl⟩
def MX0_keep : mj_M := (yX0_keep, cX0_keep, 2, none)
theorem okX0_keep : mj_okV MX0_keep 1 := ⟨⟨tb_k (i := 342) (by decide +kernel) (by decide +kernel), tb_k (i := 4) (by decide +kernel) (by decide +kernel), (by decide +kernel), ⟨(by decide +kernel), (by decide +kernel), (by decide +kernel)⟩, (by decide +kernel)⟩, tb_k (i := 340) (by decide +kernel) (by decide +kernel), tb_k (i := 341) (by decide +kernel) (by decide +kernel)⟩
def MX0_undoLatest : mj_M := (yX0_undoLatest, cX0_undoLatest, 2, some .boolean)
theorem okX0_undoLatest : mj_okV MX0_undoLatest 1 := ⟨⟨tb_k (i := 328) (by decide +kernel) (by decide +kernel), tb_k (i := 4) (by decide +kernel) (by decide +kernel), (by decide +kernel), ⟨(by decide +kernel), (by decide +kernel), (by decide +kernel)⟩, (by decide +kernel)⟩, tb_k (i := 326) (by decide +kernel) (by decide +kernel), tb_k (i := 327) (by decide +kernel) (by decide +kernel)⟩
def MX0_forgetAll : mj_M := (yX0_forgetAll, cX0_forgetAll, 1, none)
theorem okX0_forgetAll : mj_okV MX0_forgetAll 0 := ⟨⟨tb_k (i := 316) (by decide +kernel) (by decide +kernel), tb_k (i := 4) (by decide +kernel) (by decide +kernel), (by decide +kernel), ⟨(by decide +kernel), (by decide +kernel), (by decide +kernel)⟩, (by decide +kernel)⟩, tb_k (i := 314) (by decide +kernel) (by decide +kernel), tb_k (i := 315) (by decide +kernel) (by decide +kernel)⟩
def MX1_init : mj_M := (yX1_init, cX1_init, 1, none)
theorem okX1_init : mj_okI MX1_init 0 := ⟨⟨tb_k (i := 132) (by decide +kernel) (by decide +kernel), tb_k (i := 5) (by decide +kernel) (by decide +kernel), (by decide +kernel), ⟨(by decide +kernel), (by decide +kernel), (by decide +kernel)⟩, (by decide +kernel)⟩, tb_k (i := 131) (by decide +kernel) (by decide +kernel), rfl⟩
def MX1_isMissing : mj_M := (yX1_isMissing, cX1_isMissing, 1, some .boolean)
theorem okX1_isMissing : mj_okV MX1_isMissing 0 := ⟨⟨tb_k (i := 216) (by decide +kernel) (by decide +kernel), tb_k (i := 5) (by decide +kernel) (by decide +kernel), (by decide +kernel), ⟨(by decide +kernel), (by decide +kernel), (by decide +kernel)⟩, (by decide +kernel)⟩, tb_k (i := 214) (by decide +kernel) (by decide +kernel), tb_k (i := 215) (by decide +kernel) (by decide +kernel)⟩
def MX1_begin : mj_M := (yX1_begin, cX1_begin, 3, none)
theorem okX1_begin : mj_okV MX1_begin 2 := ⟨⟨tb_k (i := 197) (by decide +kernel) (by decide +kernel), tb_k (i := 5) (by decide +kernel) (by decide +kernel), (by decide +kernel), ⟨(by decide +kernel), (by decide +kernel), (by decide +kernel)⟩, (by decide +kernel)⟩, tb_k (i := 195) (by decide +kernel) (by decide +kernel), tb_k (i := 196) (by decide +kernel) (by decide +kernel)⟩
def MX1_has : mj_M := (yX1_has, cX1_has, 3, some .boolean)
theorem okX1_has : mj_okV MX1_has 2 := ⟨⟨tb_k (i := 220) (by decide +kernel) (by decide +kernel), tb_k (i := 5) (by decide +kernel) (by decide +kernel), (by decide +kernel), ⟨(by decide +kernel), (by decide +kernel), (by decide +kernel)⟩, (by decide +kernel)⟩, tb_k (i := 218) (by decide +kernel) (by decide +kernel), tb_k (i := 219) (by decide +kernel) (by decide +kernel)⟩
def MX1_findingOf : mj_M := (yX1_findingOf, cX1_findingOf, 3, some .int)
theorem okX1_findingOf : mj_okV MX1_findingOf 2 := ⟨⟨tb_k (i := 212) (by decide +kernel) (by decide +kernel), tb_k (i := 5) (by decide +kernel) (by decide +kernel), (by decide +kernel), ⟨(by decide +kernel), (by decide +kernel), (by decide +kernel)⟩, (by decide +kernel)⟩, tb_k (i := 210) (by decide +kernel) (by decide +kernel), tb_k (i := 211) (by decide +kernel) (by decide +kernel)⟩
def MX1_put : mj_M := (yX1_put, cX1_put, 3, some .int)
theorem okX1_put : mj_okV MX1_put 2 := ⟨⟨tb_k (i := 224) (by decide +kernel) (by decide +kernel), tb_k (i := 5) (by decide +kernel) (by decide +kernel), (by decide +kernel), ⟨(by decide +kernel), (by decide +kernel), (by decide +kernel)⟩, (by decide +kernel)⟩, tb_k (i := 222) (by decide +kernel) (by decide +kernel), tb_k (i := 223) (by decide +kernel) (by decide +kernel)⟩
def MX2_init : mj_M := (yX2_init, cX2_init, 1, none)
theorem okX2_init : mj_okI MX2_init 0 := ⟨⟨tb_k (i := 60) (by decide +kernel) (by decide +kernel), tb_k (i := 3) (by decide +kernel) (by decide +kernel), (by decide +kernel), ⟨(by decide +kernel), (by decide +kernel), (by decide +kernel)⟩, (by decide +kernel)⟩, tb_k (i := 59) (by decide +kernel) (by decide +kernel), rfl⟩
def MX2_stands : mj_M := (yX2_stands, cX2_stands, 1, some .boolean)
theorem okX2_stands : mj_okV MX2_stands 0 := ⟨⟨tb_k (i := 338) (by decide +kernel) (by decide +kernel), tb_k (i := 3) (by decide +kernel) (by decide +kernel), (by decide +kernel), ⟨(by decide +kernel), (by decide +kernel), (by decide +kernel)⟩, (by decide +kernel)⟩, tb_k (i := 336) (by decide +kernel) (by decide +kernel), tb_k (i := 337) (by decide +kernel) (by decide +kernel)⟩
def MX2_takeFrom : mj_M := (yX2_takeFrom, cX2_takeFrom, 2, none)
theorem okX2_takeFrom : mj_okV MX2_takeFrom 1 := ⟨⟨tb_k (i := 311) (by decide +kernel) (by decide +kernel), tb_k (i := 3) (by decide +kernel) (by decide +kernel), (by decide +kernel), ⟨(by decide +kernel), (by decide +kernel), (by decide +kernel)⟩, (by decide +kernel)⟩, tb_k (i := 309) (by decide +kernel) (by decide +kernel), tb_k (i := 310) (by decide +kernel) (by decide +kernel)⟩
def MX2_begin : mj_M := (yX2_begin, cX2_begin, 3, none)
theorem okX2_begin : mj_okV MX2_begin 2 := ⟨⟨tb_k (i := 286) (by decide +kernel) (by decide +kernel), tb_k (i := 3) (by decide +kernel) (by decide +kernel), (by decide +kernel), ⟨(by decide +kernel), (by decide +kernel), (by decide +kernel)⟩, (by decide +kernel)⟩, tb_k (i := 284) (by decide +kernel) (by decide +kernel), tb_k (i := 285) (by decide +kernel) (by decide +kernel)⟩
def MX2_hasRoom : mj_M := (yX2_hasRoom, cX2_hasRoom, 1, some .boolean)
theorem okX2_hasRoom : mj_okV MX2_hasRoom 0 := ⟨⟨tb_k (i := 297) (by decide +kernel) (by decide +kernel), tb_k (i := 3) (by decide +kernel) (by decide +kernel), (by decide +kernel), ⟨(by decide +kernel), (by decide +kernel), (by decide +kernel)⟩, (by decide +kernel)⟩, tb_k (i := 295) (by decide +kernel) (by decide +kernel), tb_k (i := 296) (by decide +kernel) (by decide +kernel)⟩
def MX2_build : mj_M := (yX2_build, cX2_build, 5, none)
theorem okX2_build : mj_okV MX2_build 4 := ⟨⟨tb_k (i := 301) (by decide +kernel) (by decide +kernel), tb_k (i := 3) (by decide +kernel) (by decide +kernel), (by decide +kernel), ⟨(by decide +kernel), (by decide +kernel), (by decide +kernel)⟩, (by decide +kernel)⟩, tb_k (i := 299) (by decide +kernel) (by decide +kernel), tb_k (i := 300) (by decide +kernel) (by decide +kernel)⟩
def MX2_putBars : mj_M := (yX2_putBars, cX2_putBars, 3, none)
theorem okX2_putBars : mj_okV MX2_putBars 2 := ⟨⟨tb_k (i := 306) (by decide +kernel) (by decide +kernel), tb_k (i := 3) (by decide +kernel) (by decide +kernel), (by decide +kernel), ⟨(by decide +kernel), (by decide +kernel), (by decide +kernel)⟩, (by decide +kernel)⟩, tb_k (i := 304) (by decide +kernel) (by decide +kernel), tb_k (i := 305) (by decide +kernel) (by decide +kernel)⟩
def MX2_lowerPond : mj_M := (yX2_lowerPond, cX2_lowerPond, 2, none)
theorem okX2_lowerPond : mj_okV MX2_lowerPond 1 := ⟨⟨tb_k (i := 395) (by decide +kernel) (by decide +kernel), tb_k (i := 3) (by decide +kernel) (by decide +kernel), (by decide +kernel), ⟨(by decide +kernel), (by decide +kernel), (by decide +kernel)⟩, (by decide +kernel)⟩, tb_k (i := 393) (by decide +kernel) (by decide +kernel), tb_k (i := 394) (by decide +kernel) (by decide +kernel)⟩
def MX2_takeDraw : mj_M := (yX2_takeDraw, cX2_takeDraw, 2, none)
theorem okX2_takeDraw : mj_okV MX2_takeDraw 1 := ⟨⟨tb_k (i := 552) (by decide +kernel) (by decide +kernel), tb_k (i := 3) (by decide +kernel) (by decide +kernel), (by decide +kernel), ⟨(by decide +kernel), (by decide +kernel), (by decide +kernel)⟩, (by decide +kernel)⟩, tb_k (i := 550) (by decide +kernel) (by decide +kernel), tb_k (i := 551) (by decide +kernel) (by decide +kernel)⟩
def MX2_isHushed : mj_M := (yX2_isHushed, cX2_isHushed, 2, some .boolean)
theorem okX2_isHushed : mj_okV MX2_isHushed 1 := ⟨⟨tb_k (i := 366) (by decide +kernel) (by decide +kernel), tb_k (i := 3) (by decide +kernel) (by decide +kernel), (by decide +kernel), ⟨(by decide +kernel), (by decide +kernel), (by decide +kernel)⟩, (by decide +kernel)⟩, tb_k (i := 364) (by decide +kernel) (by decide +kernel), tb_k (i := 365) (by decide +kernel) (by decide +kernel)⟩
def MX2_shedsOf : mj_M := (yX2_shedsOf, cX2_shedsOf, 2, some .int)
theorem okX2_shedsOf : mj_okV MX2_shedsOf 1 := ⟨⟨tb_k (i := 362) (by decide +kernel) (by decide +kernel), tb_k (i := 3) (by decide +kernel) (by decide +kernel), (by decide +kernel), ⟨(by decide +kernel), (by decide +kernel), (by decide +kernel)⟩, (by decide +kernel)⟩, tb_k (i := 360) (by decide +kernel) (by decide +kernel), tb_k (i := 361) (by decide +kernel) (by decide +kernel)⟩
def MX2_passMinutes : mj_M := (yX2_passMinutes, cX2_passMinutes, 3, none)
theorem okX2_passMinutes : mj_okV MX2_passMinutes 1 := ⟨⟨tb_k (i := 427) (by decide +kernel) (by decide +kernel), tb_k (i := 3) (by decide +kernel) (by decide +kernel), (by decide +kernel), ⟨(by decide +kernel), (by decide +kernel), (by decide +kernel)⟩, (by decide +kernel)⟩, tb_k (i := 425) (by decide +kernel) (by decide +kernel), tb_k (i := 426) (by decide +kernel) (by decide +kernel)⟩
def MX2_passMinute : mj_M := (yX2_passMinute, cX2_passMinute, 5, none)
theorem okX2_passMinute : mj_okV MX2_passMinute 0 := ⟨⟨tb_k (i := 349) (by decide +kernel) (by decide +kernel), tb_k (i := 3) (by decide +kernel) (by decide +kernel), (by decide +kernel), ⟨(by decide +kernel), (by decide +kernel), (by decide +kernel)⟩, (by decide +kernel)⟩, tb_k (i := 347) (by decide +kernel) (by decide +kernel), tb_k (i := 348) (by decide +kernel) (by decide +kernel)⟩
def MX2_flowOf : mj_M := (yX2_flowOf, cX2_flowOf, 2, some .int)
theorem okX2_flowOf : mj_okV MX2_flowOf 1 := ⟨⟨tb_k (i := 353) (by decide +kernel) (by decide +kernel), tb_k (i := 3) (by decide +kernel) (by decide +kernel), (by decide +kernel), ⟨(by decide +kernel), (by decide +kernel), (by decide +kernel)⟩, (by decide +kernel)⟩, tb_k (i := 352) (by decide +kernel) (by decide +kernel), tb_p (i := 9) (by decide +kernel) (by decide +kernel)⟩
def MX2_behindBars : mj_M := (yX2_behindBars, cX2_behindBars, 3, some .int)
theorem okX2_behindBars : mj_okV MX2_behindBars 2 := ⟨⟨tb_k (i := 358) (by decide +kernel) (by decide +kernel), tb_k (i := 3) (by decide +kernel) (by decide +kernel), (by decide +kernel), ⟨(by decide +kernel), (by decide +kernel), (by decide +kernel)⟩, (by decide +kernel)⟩, tb_k (i := 357) (by decide +kernel) (by decide +kernel), tb_p (i := 10) (by decide +kernel) (by decide +kernel)⟩
def MX2_isOverPlank : mj_M := (yX2_isOverPlank, cX2_isOverPlank, 1, some .boolean)
theorem okX2_isOverPlank : mj_okV MX2_isOverPlank 0 := ⟨⟨tb_k (i := 411) (by decide +kernel) (by decide +kernel), tb_k (i := 3) (by decide +kernel) (by decide +kernel), (by decide +kernel), ⟨(by decide +kernel), (by decide +kernel), (by decide +kernel)⟩, (by decide +kernel)⟩, tb_k (i := 409) (by decide +kernel) (by decide +kernel), tb_k (i := 410) (by decide +kernel) (by decide +kernel)⟩
def MX2_isClearAt : mj_M := (yX2_isClearAt, cX2_isClearAt, 2, some .boolean)
theorem okX2_isClearAt : mj_okV MX2_isClearAt 1 := ⟨⟨tb_k (i := 472) (by decide +kernel) (by decide +kernel), tb_k (i := 3) (by decide +kernel) (by decide +kernel), (by decide +kernel), ⟨(by decide +kernel), (by decide +kernel), (by decide +kernel)⟩, (by decide +kernel)⟩, tb_k (i := 470) (by decide +kernel) (by decide +kernel), tb_k (i := 471) (by decide +kernel) (by decide +kernel)⟩
def MX2_firstFullBars : mj_M := (yX2_firstFullBars, cX2_firstFullBars, 2, some .int)
theorem okX2_firstFullBars : mj_okV MX2_firstFullBars 0 := ⟨⟨tb_k (i := 445) (by decide +kernel) (by decide +kernel), tb_k (i := 3) (by decide +kernel) (by decide +kernel), (by decide +kernel), ⟨(by decide +kernel), (by decide +kernel), (by decide +kernel)⟩, (by decide +kernel)⟩, tb_k (i := 443) (by decide +kernel) (by decide +kernel), tb_k (i := 444) (by decide +kernel) (by decide +kernel)⟩
def MX2_caughtInAll : mj_M := (yX2_caughtInAll, cX2_caughtInAll, 3, some .int)
theorem okX2_caughtInAll : mj_okV MX2_caughtInAll 0 := ⟨⟨tb_k (i := 415) (by decide +kernel) (by decide +kernel), tb_k (i := 3) (by decide +kernel) (by decide +kernel), (by decide +kernel), ⟨(by decide +kernel), (by decide +kernel), (by decide +kernel)⟩, (by decide +kernel)⟩, tb_k (i := 413) (by decide +kernel) (by decide +kernel), tb_k (i := 414) (by decide +kernel) (by decide +kernel)⟩
def MX2_inAllGutters : mj_M := (yX2_inAllGutters, cX2_inAllGutters, 3, some .int)
theorem okX2_inAllGutters : mj_okV MX2_inAllGutters 0 := ⟨⟨tb_k (i := 419) (by decide +kernel) (by decide +kernel), tb_k (i := 3) (by decide +kernel) (by decide +kernel), (by decide +kernel), ⟨(by decide +kernel), (by decide +kernel), (by decide +kernel)⟩, (by decide +kernel)⟩, tb_k (i := 417) (by decide +kernel) (by decide +kernel), tb_k (i := 418) (by decide +kernel) (by decide +kernel)⟩
def MX2_dryGutters : mj_M := (yX2_dryGutters, cX2_dryGutters, 3, some .int)
theorem okX2_dryGutters : mj_okV MX2_dryGutters 0 := ⟨⟨tb_k (i := 500) (by decide +kernel) (by decide +kernel), tb_k (i := 3) (by decide +kernel) (by decide +kernel), (by decide +kernel), ⟨(by decide +kernel), (by decide +kernel), (by decide +kernel)⟩, (by decide +kernel)⟩, tb_k (i := 498) (by decide +kernel) (by decide +kernel), tb_k (i := 499) (by decide +kernel) (by decide +kernel)⟩
def MX3_init : mj_M := (yX3_init, cX3_init, 1, none)
theorem okX3_init : mj_okI MX3_init 0 := ⟨⟨tb_k (i := 25) (by decide +kernel) (by decide +kernel), tb_k (i := 2) (by decide +kernel) (by decide +kernel), (by decide +kernel), ⟨(by decide +kernel), (by decide +kernel), (by decide +kernel)⟩, (by decide +kernel)⟩, tb_k (i := 24) (by decide +kernel) (by decide +kernel), rfl⟩
def MX3_add : mj_M := (yX3_add, cX3_add, 2, some .boolean)
theorem okX3_add : mj_okV MX3_add 1 := ⟨⟨tb_k (i := 245) (by decide +kernel) (by decide +kernel), tb_k (i := 2) (by decide +kernel) (by decide +kernel), (by decide +kernel), ⟨(by decide +kernel), (by decide +kernel), (by decide +kernel)⟩, (by decide +kernel)⟩, tb_k (i := 243) (by decide +kernel) (by decide +kernel), tb_k (i := 244) (by decide +kernel) (by decide +kernel)⟩
def MX3_readStreet : mj_M := (yX3_readStreet, cX3_readStreet, 4, some .boolean)
theorem okX3_readStreet : mj_okV MX3_readStreet 1 := ⟨⟨tb_k (i := 254) (by decide +kernel) (by decide +kernel), tb_k (i := 2) (by decide +kernel) (by decide +kernel), (by decide +kernel), ⟨(by decide +kernel), (by decide +kernel), (by decide +kernel)⟩, (by decide +kernel)⟩, tb_k (i := 252) (by decide +kernel) (by decide +kernel), tb_k (i := 253) (by decide +kernel) (by decide +kernel)⟩
def MX3_readLaw : mj_M := (yX3_readLaw, cX3_readLaw, 3, some .boolean)
theorem okX3_readLaw : mj_okV MX3_readLaw 1 := ⟨⟨tb_k (i := 269) (by decide +kernel) (by decide +kernel), tb_k (i := 2) (by decide +kernel) (by decide +kernel), (by decide +kernel), ⟨(by decide +kernel), (by decide +kernel), (by decide +kernel)⟩, (by decide +kernel)⟩, tb_k (i := 268) (by decide +kernel) (by decide +kernel), tb_p (i := 4) (by decide +kernel) (by decide +kernel)⟩
def MX3_readHouse : mj_M := (yX3_readHouse, cX3_readHouse, 5, some .boolean)
theorem okX3_readHouse : mj_okV MX3_readHouse 1 := ⟨⟨tb_k (i := 290) (by decide +kernel) (by decide +kernel), tb_k (i := 2) (by decide +kernel) (by decide +kernel), (by decide +kernel), ⟨(by decide +kernel), (by decide +kernel), (by decide +kernel)⟩, (by decide +kernel)⟩, tb_k (i := 289) (by decide +kernel) (by decide +kernel), tb_p (i := 8) (by decide +kernel) (by decide +kernel)⟩
def MX3_kindOfSort : mj_M := (yX3_kindOfSort, cX3_kindOfSort, 1, some .int)
theorem okX3_kindOfSort : mj_okS MX3_kindOfSort 1 := ⟨⟨tb_k (i := 293) (by decide +kernel) (by decide +kernel), tb_k (i := 2) (by decide +kernel) (by decide +kernel), (by decide +kernel), ⟨(by decide +kernel), (by decide +kernel), (by decide +kernel)⟩, (by decide +kernel)⟩, tb_k (i := 292) (by decide +kernel) (by decide +kernel)⟩
def MX3_takesByte : mj_M := (yX3_takesByte, cX3_takesByte, 2, some .boolean)
theorem okX3_takesByte : mj_okV MX3_takesByte 1 := ⟨⟨tb_k (i := 273) (by decide +kernel) (by decide +kernel), tb_k (i := 2) (by decide +kernel) (by decide +kernel), (by decide +kernel), ⟨(by decide +kernel), (by decide +kernel), (by decide +kernel)⟩, (by decide +kernel)⟩, tb_k (i := 272) (by decide +kernel) (by decide +kernel), tb_p (i := 5) (by decide +kernel) (by decide +kernel)⟩
def MX3_takesNumber : mj_M := (yX3_takesNumber, cX3_takesNumber, 3, some .boolean)
theorem okX3_takesNumber : mj_okV MX3_takesNumber 2 := ⟨⟨tb_k (i := 281) (by decide +kernel) (by decide +kernel), tb_k (i := 2) (by decide +kernel) (by decide +kernel), (by decide +kernel), ⟨(by decide +kernel), (by decide +kernel), (by decide +kernel)⟩, (by decide +kernel)⟩, tb_k (i := 280) (by decide +kernel) (by decide +kernel), tb_p (i := 7) (by decide +kernel) (by decide +kernel)⟩
def MX3_fails : mj_M := (yX3_fails, cX3_fails, 2, some .boolean)
theorem okX3_fails : mj_okV MX3_fails 1 := ⟨⟨tb_k (i := 277) (by decide +kernel) (by decide +kernel), tb_k (i := 2) (by decide +kernel) (by decide +kernel), (by decide +kernel), ⟨(by decide +kernel), (by decide +kernel), (by decide +kernel)⟩, (by decide +kernel)⟩, tb_k (i := 276) (by decide +kernel) (by decide +kernel), tb_p (i := 6) (by decide +kernel) (by decide +kernel)⟩
def MX3_advance : mj_M := (yX3_advance, cX3_advance, 1, none)
theorem okX3_advance : mj_okV MX3_advance 0 := ⟨⟨tb_k (i := 258) (by decide +kernel) (by decide +kernel), tb_k (i := 2) (by decide +kernel) (by decide +kernel), (by decide +kernel), ⟨(by decide +kernel), (by decide +kernel), (by decide +kernel)⟩, (by decide +kernel)⟩, tb_k (i := 257) (by decide +kernel) (by decide +kernel), tb_p (i := 2) (by decide +kernel) (by decide +kernel)⟩
def MX3_readFigures : mj_M := (yX3_readFigures, cX3_readFigures, 1, none)
theorem okX3_readFigures : mj_okV MX3_readFigures 0 := ⟨⟨tb_k (i := 265) (by decide +kernel) (by decide +kernel), tb_k (i := 2) (by decide +kernel) (by decide +kernel), (by decide +kernel), ⟨(by decide +kernel), (by decide +kernel), (by decide +kernel)⟩, (by decide +kernel)⟩, tb_k (i := 264) (by decide +kernel) (by decide +kernel), tb_p (i := 3) (by decide +kernel) (by decide +kernel)⟩
def MX3_isFigure : mj_M := (yX3_isFigure, cX3_isFigure, 1, some .boolean)
theorem okX3_isFigure : mj_okS MX3_isFigure 1 := ⟨⟨tb_k (i := 261) (by decide +kernel) (by decide +kernel), tb_k (i := 2) (by decide +kernel) (by decide +kernel), (by decide +kernel), ⟨(by decide +kernel), (by decide +kernel), (by decide +kernel)⟩, (by decide +kernel)⟩, tb_k (i := 260) (by decide +kernel) (by decide +kernel)⟩
def MX4_init : mj_M := (yX4_init, cX4_init, 2, none)
theorem okX4_init : mj_okI MX4_init 0 := ⟨⟨tb_k (i := 15) (by decide +kernel) (by decide +kernel), tb_k (i := 1) (by decide +kernel) (by decide +kernel), (by decide +kernel), ⟨(by decide +kernel), (by decide +kernel), (by decide +kernel)⟩, (by decide +kernel)⟩, tb_k (i := 14) (by decide +kernel) (by decide +kernel), rfl⟩
def MX4_row : mj_M := (yX4_row, cX4_row, 4, some .int)
theorem okX4_row : mj_okV MX4_row 3 := ⟨⟨tb_k (i := 181) (by decide +kernel) (by decide +kernel), tb_k (i := 1) (by decide +kernel) (by decide +kernel), (by decide +kernel), ⟨(by decide +kernel), (by decide +kernel), (by decide +kernel)⟩, (by decide +kernel)⟩, tb_k (i := 179) (by decide +kernel) (by decide +kernel), tb_k (i := 180) (by decide +kernel) (by decide +kernel)⟩
def MX4_set : mj_M := (yX4_set, cX4_set, 5, some .int)
theorem okX4_set : mj_okV MX4_set 3 := ⟨⟨tb_k (i := 208) (by decide +kernel) (by decide +kernel), tb_k (i := 1) (by decide +kernel) (by decide +kernel), (by decide +kernel), ⟨(by decide +kernel), (by decide +kernel), (by decide +kernel)⟩, (by decide +kernel)⟩, tb_k (i := 206) (by decide +kernel) (by decide +kernel), tb_k (i := 207) (by decide +kernel) (by decide +kernel)⟩
def MX4_copy : mj_M := (yX4_copy, cX4_copy, 8, some .int)
theorem okX4_copy : mj_okV MX4_copy 5 := ⟨⟨tb_k (i := 228) (by decide +kernel) (by decide +kernel), tb_k (i := 1) (by decide +kernel) (by decide +kernel), (by decide +kernel), ⟨(by decide +kernel), (by decide +kernel), (by decide +kernel)⟩, (by decide +kernel)⟩, tb_k (i := 226) (by decide +kernel) (by decide +kernel), tb_k (i := 227) (by decide +kernel) (by decide +kernel)⟩
def MX4_drop : mj_M := (yX4_drop, cX4_drop, 2, some .int)
theorem okX4_drop : mj_okV MX4_drop 1 := ⟨⟨tb_k (i := 237) (by decide +kernel) (by decide +kernel), tb_k (i := 1) (by decide +kernel) (by decide +kernel), (by decide +kernel), ⟨(by decide +kernel), (by decide +kernel), (by decide +kernel)⟩, (by decide +kernel)⟩, tb_k (i := 235) (by decide +kernel) (by decide +kernel), tb_k (i := 236) (by decide +kernel) (by decide +kernel)⟩
def MX4_feed : mj_M := (yX4_feed, cX4_feed, 2, some .int)
theorem okX4_feed : mj_okV MX4_feed 1 := ⟨⟨tb_k (i := 241) (by decide +kernel) (by decide +kernel), tb_k (i := 1) (by decide +kernel) (by decide +kernel), (by decide +kernel), ⟨(by decide +kernel), (by decide +kernel), (by decide +kernel)⟩, (by decide +kernel)⟩, tb_k (i := 239) (by decide +kernel) (by decide +kernel), tb_k (i := 240) (by decide +kernel) (by decide +kernel)⟩
def MX4_street : mj_M := (yX4_street, cX4_street, 2, some .int)
theorem okX4_street : mj_okV MX4_street 0 := ⟨⟨tb_k (i := 250) (by decide +kernel) (by decide +kernel), tb_k (i := 1) (by decide +kernel) (by decide +kernel), (by decide +kernel), ⟨(by decide +kernel), (by decide +kernel), (by decide +kernel)⟩, (by decide +kernel)⟩, tb_k (i := 248) (by decide +kernel) (by decide +kernel), tb_k (i := 249) (by decide +kernel) (by decide +kernel)⟩
def MX4_fault : mj_M := (yX4_fault, cX4_fault, 1, some .int)
theorem okX4_fault : mj_okV MX4_fault 0 := ⟨⟨tb_k (i := 320) (by decide +kernel) (by decide +kernel), tb_k (i := 1) (by decide +kernel) (by decide +kernel), (by decide +kernel), ⟨(by decide +kernel), (by decide +kernel), (by decide +kernel)⟩, (by decide +kernel)⟩, tb_k (i := 318) (by decide +kernel) (by decide +kernel), tb_k (i := 319) (by decide +kernel) (by decide +kernel)⟩
def MX4_undo : mj_M := (yX4_undo, cX4_undo, 1, some .int)
theorem okX4_undo : mj_okV MX4_undo 0 := ⟨⟨tb_k (i := 324) (by decide +kernel) (by decide +kernel), tb_k (i := 1) (by decide +kernel) (by decide +kernel), (by decide +kernel), ⟨(by decide +kernel), (by decide +kernel), (by decide +kernel)⟩, (by decide +kernel)⟩, tb_k (i := 322) (by decide +kernel) (by decide +kernel), tb_k (i := 323) (by decide +kernel) (by decide +kernel)⟩
def MX4_minutes : mj_M := (yX4_minutes, cX4_minutes, 3, some .int)
theorem okX4_minutes : mj_okV MX4_minutes 1 := ⟨⟨tb_k (i := 334) (by decide +kernel) (by decide +kernel), tb_k (i := 1) (by decide +kernel) (by decide +kernel), (by decide +kernel), ⟨(by decide +kernel), (by decide +kernel), (by decide +kernel)⟩, (by decide +kernel)⟩, tb_k (i := 332) (by decide +kernel) (by decide +kernel), tb_k (i := 333) (by decide +kernel) (by decide +kernel)⟩
def MX4_talk : mj_M := (yX4_talk, cX4_talk, 4, some .int)
theorem okX4_talk : mj_okV MX4_talk 2 := ⟨⟨tb_k (i := 373) (by decide +kernel) (by decide +kernel), tb_k (i := 1) (by decide +kernel) (by decide +kernel), (by decide +kernel), ⟨(by decide +kernel), (by decide +kernel), (by decide +kernel)⟩, (by decide +kernel)⟩, tb_k (i := 371) (by decide +kernel) (by decide +kernel), tb_k (i := 372) (by decide +kernel) (by decide +kernel)⟩
def MX4_hush : mj_M := (yX4_hush, cX4_hush, 3, some .int)
theorem okX4_hush : mj_okV MX4_hush 2 := ⟨⟨tb_k (i := 381) (by decide +kernel) (by decide +kernel), tb_k (i := 1) (by decide +kernel) (by decide +kernel), (by decide +kernel), ⟨(by decide +kernel), (by decide +kernel), (by decide +kernel)⟩, (by decide +kernel)⟩, tb_k (i := 379) (by decide +kernel) (by decide +kernel), tb_k (i := 380) (by decide +kernel) (by decide +kernel)⟩
def MX4_bars : mj_M := (yX4_bars, cX4_bars, 4, some .int)
theorem okX4_bars : mj_okV MX4_bars 2 := ⟨⟨tb_k (i := 386) (by decide +kernel) (by decide +kernel), tb_k (i := 1) (by decide +kernel) (by decide +kernel), (by decide +kernel), ⟨(by decide +kernel), (by decide +kernel), (by decide +kernel)⟩, (by decide +kernel)⟩, tb_k (i := 384) (by decide +kernel) (by decide +kernel), tb_k (i := 385) (by decide +kernel) (by decide +kernel)⟩
def MX4_letDown : mj_M := (yX4_letDown, cX4_letDown, 2, some .int)
theorem okX4_letDown : mj_okV MX4_letDown 1 := ⟨⟨tb_k (i := 391) (by decide +kernel) (by decide +kernel), tb_k (i := 1) (by decide +kernel) (by decide +kernel), (by decide +kernel), ⟨(by decide +kernel), (by decide +kernel), (by decide +kernel)⟩, (by decide +kernel)⟩, tb_k (i := 389) (by decide +kernel) (by decide +kernel), tb_k (i := 390) (by decide +kernel) (by decide +kernel)⟩
def MX4_house : mj_M := (yX4_house, cX4_house, 3, some .int)
theorem okX4_house : mj_okV MX4_house 2 := ⟨⟨tb_k (i := 402) (by decide +kernel) (by decide +kernel), tb_k (i := 1) (by decide +kernel) (by decide +kernel), (by decide +kernel), ⟨(by decide +kernel), (by decide +kernel), (by decide +kernel)⟩, (by decide +kernel)⟩, tb_k (i := 400) (by decide +kernel) (by decide +kernel), tb_k (i := 401) (by decide +kernel) (by decide +kernel)⟩
def MX4_stand : mj_M := (yX4_stand, cX4_stand, 2, some .int)
theorem okX4_stand : mj_okV MX4_stand 1 := ⟨⟨tb_k (i := 407) (by decide +kernel) (by decide +kernel), tb_k (i := 1) (by decide +kernel) (by decide +kernel), (by decide +kernel), ⟨(by decide +kernel), (by decide +kernel), (by decide +kernel)⟩, (by decide +kernel)⟩, tb_k (i := 405) (by decide +kernel) (by decide +kernel), tb_k (i := 406) (by decide +kernel) (by decide +kernel)⟩
def MX4_ahead : mj_M := (yX4_ahead, cX4_ahead, 3, some .int)
theorem okX4_ahead : mj_okV MX4_ahead 2 := ⟨⟨tb_k (i := 423) (by decide +kernel) (by decide +kernel), tb_k (i := 1) (by decide +kernel) (by decide +kernel), (by decide +kernel), ⟨(by decide +kernel), (by decide +kernel), (by decide +kernel)⟩, (by decide +kernel)⟩, tb_k (i := 421) (by decide +kernel) (by decide +kernel), tb_k (i := 422) (by decide +kernel) (by decide +kernel)⟩
def MX4_pond : mj_M := (yX4_pond, cX4_pond, 3, some .int)
theorem okX4_pond : mj_okV MX4_pond 2 := ⟨⟨tb_k (i := 432) (by decide +kernel) (by decide +kernel), tb_k (i := 1) (by decide +kernel) (by decide +kernel), (by decide +kernel), ⟨(by decide +kernel), (by decide +kernel), (by decide +kernel)⟩, (by decide +kernel)⟩, tb_k (i := 430) (by decide +kernel) (by decide +kernel), tb_k (i := 431) (by decide +kernel) (by decide +kernel)⟩
def MX4_over : mj_M := (yX4_over, cX4_over, 2, some .int)
theorem okX4_over : mj_okV MX4_over 0 := ⟨⟨tb_k (i := 436) (by decide +kernel) (by decide +kernel), tb_k (i := 1) (by decide +kernel) (by decide +kernel), (by decide +kernel), ⟨(by decide +kernel), (by decide +kernel), (by decide +kernel)⟩, (by decide +kernel)⟩, tb_k (i := 434) (by decide +kernel) (by decide +kernel), tb_k (i := 435) (by decide +kernel) (by decide +kernel)⟩
def MX4_full : mj_M := (yX4_full, cX4_full, 4, some .int)
theorem okX4_full : mj_okV MX4_full 1 := ⟨⟨tb_k (i := 441) (by decide +kernel) (by decide +kernel), tb_k (i := 1) (by decide +kernel) (by decide +kernel), (by decide +kernel), ⟨(by decide +kernel), (by decide +kernel), (by decide +kernel)⟩, (by decide +kernel)⟩, tb_k (i := 439) (by decide +kernel) (by decide +kernel), tb_k (i := 440) (by decide +kernel) (by decide +kernel)⟩
def MX4_most : mj_M := (yX4_most, cX4_most, 7, some .int)
theorem okX4_most : mj_okV MX4_most 3 := ⟨⟨tb_k (i := 450) (by decide +kernel) (by decide +kernel), tb_k (i := 1) (by decide +kernel) (by decide +kernel), (by decide +kernel), ⟨(by decide +kernel), (by decide +kernel), (by decide +kernel)⟩, (by decide +kernel)⟩, tb_k (i := 448) (by decide +kernel) (by decide +kernel), tb_k (i := 449) (by decide +kernel) (by decide +kernel)⟩
def MX4_hushes : mj_M := (yX4_hushes, cX4_hushes, 4, some .int)
theorem okX4_hushes : mj_okV MX4_hushes 3 := ⟨⟨tb_k (i := 454) (by decide +kernel) (by decide +kernel), tb_k (i := 1) (by decide +kernel) (by decide +kernel), (by decide +kernel), ⟨(by decide +kernel), (by decide +kernel), (by decide +kernel)⟩, (by decide +kernel)⟩, tb_k (i := 452) (by decide +kernel) (by decide +kernel), tb_k (i := 453) (by decide +kernel) (by decide +kernel)⟩
def MX4_spares : mj_M := (yX4_spares, cX4_spares, 3, some .int)
theorem okX4_spares : mj_okV MX4_spares 2 := ⟨⟨tb_k (i := 480) (by decide +kernel) (by decide +kernel), tb_k (i := 1) (by decide +kernel) (by decide +kernel), (by decide +kernel), ⟨(by decide +kernel), (by decide +kernel), (by decide +kernel)⟩, (by decide +kernel)⟩, tb_k (i := 478) (by decide +kernel) (by decide +kernel), tb_k (i := 479) (by decide +kernel) (by decide +kernel)⟩
def MX4_catches : mj_M := (yX4_catches, cX4_catches, 6, some .int)
theorem okX4_catches : mj_okV MX4_catches 2 := ⟨⟨tb_k (i := 484) (by decide +kernel) (by decide +kernel), tb_k (i := 1) (by decide +kernel) (by decide +kernel), (by decide +kernel), ⟨(by decide +kernel), (by decide +kernel), (by decide +kernel)⟩, (by decide +kernel)⟩, tb_k (i := 482) (by decide +kernel) (by decide +kernel), tb_k (i := 483) (by decide +kernel) (by decide +kernel)⟩
def MX4_from : mj_M := (yX4_from, cX4_from, 4, some .int)
theorem okX4_from : mj_okV MX4_from 2 := ⟨⟨tb_k (i := 488) (by decide +kernel) (by decide +kernel), tb_k (i := 1) (by decide +kernel) (by decide +kernel), (by decide +kernel), ⟨(by decide +kernel), (by decide +kernel), (by decide +kernel)⟩, (by decide +kernel)⟩, tb_k (i := 486) (by decide +kernel) (by decide +kernel), tb_k (i := 487) (by decide +kernel) (by decide +kernel)⟩
def MX4_loud : mj_M := (yX4_loud, cX4_loud, 4, some .int)
theorem okX4_loud : mj_okV MX4_loud 2 := ⟨⟨tb_k (i := 492) (by decide +kernel) (by decide +kernel), tb_k (i := 1) (by decide +kernel) (by decide +kernel), (by decide +kernel), ⟨(by decide +kernel), (by decide +kernel), (by decide +kernel)⟩, (by decide +kernel)⟩, tb_k (i := 490) (by decide +kernel) (by decide +kernel), tb_k (i := 491) (by decide +kernel) (by decide +kernel)⟩
def MX4_dry : mj_M := (yX4_dry, cX4_dry, 1, some .int)
theorem okX4_dry : mj_okV MX4_dry 0 := ⟨⟨tb_k (i := 496) (by decide +kernel) (by decide +kernel), tb_k (i := 1) (by decide +kernel) (by decide +kernel), (by decide +kernel), ⟨(by decide +kernel), (by decide +kernel), (by decide +kernel)⟩, (by decide +kernel)⟩, tb_k (i := 494) (by decide +kernel) (by decide +kernel), tb_k (i := 495) (by decide +kernel) (by decide +kernel)⟩
def MX4_lag : mj_M := (yX4_lag, cX4_lag, 2, some .int)
theorem okX4_lag : mj_okV MX4_lag 1 := ⟨⟨tb_k (i := 504) (by decide +kernel) (by decide +kernel), tb_k (i := 1) (by decide +kernel) (by decide +kernel), (by decide +kernel), ⟨(by decide +kernel), (by decide +kernel), (by decide +kernel)⟩, (by decide +kernel)⟩, tb_k (i := 502) (by decide +kernel) (by decide +kernel), tb_k (i := 503) (by decide +kernel) (by decide +kernel)⟩
def MX4_who : mj_M := (yX4_who, cX4_who, 8, some .int)
theorem okX4_who : mj_okV MX4_who 6 := ⟨⟨tb_k (i := 508) (by decide +kernel) (by decide +kernel), tb_k (i := 1) (by decide +kernel) (by decide +kernel), (by decide +kernel), ⟨(by decide +kernel), (by decide +kernel), (by decide +kernel)⟩, (by decide +kernel)⟩, tb_k (i := 506) (by decide +kernel) (by decide +kernel), tb_k (i := 507) (by decide +kernel) (by decide +kernel)⟩
def MX4_silent : mj_M := (yX4_silent, cX4_silent, 6, some .int)
theorem okX4_silent : mj_okV MX4_silent 4 := ⟨⟨tb_k (i := 520) (by decide +kernel) (by decide +kernel), tb_k (i := 1) (by decide +kernel) (by decide +kernel), (by decide +kernel), ⟨(by decide +kernel), (by decide +kernel), (by decide +kernel)⟩, (by decide +kernel)⟩, tb_k (i := 518) (by decide +kernel) (by decide +kernel), tb_k (i := 519) (by decide +kernel) (by decide +kernel)⟩
def MX4_hushed : mj_M := (yX4_hushed, cX4_hushed, 12, some .long)
theorem okX4_hushed : mj_okV MX4_hushed 3 := ⟨⟨tb_k (i := 528) (by decide +kernel) (by decide +kernel), tb_k (i := 1) (by decide +kernel) (by decide +kernel), (by decide +kernel), ⟨(by decide +kernel), (by decide +kernel), (by decide +kernel)⟩, (by decide +kernel)⟩, tb_k (i := 526) (by decide +kernel) (by decide +kernel), tb_k (i := 527) (by decide +kernel) (by decide +kernel)⟩
def MX4_drawn : mj_M := (yX4_drawn, cX4_drawn, 8, some .int)
theorem okX4_drawn : mj_okV MX4_drawn 3 := ⟨⟨tb_k (i := 545) (by decide +kernel) (by decide +kernel), tb_k (i := 1) (by decide +kernel) (by decide +kernel), (by decide +kernel), ⟨(by decide +kernel), (by decide +kernel), (by decide +kernel)⟩, (by decide +kernel)⟩, tb_k (i := 543) (by decide +kernel) (by decide +kernel), tb_k (i := 544) (by decide +kernel) (by decide +kernel)⟩
def MX4_image : mj_M := (yX4_image, cX4_image, 2, some .int)
theorem okX4_image : mj_okV MX4_image 1 := ⟨⟨tb_k (i := 558) (by decide +kernel) (by decide +kernel), tb_k (i := 1) (by decide +kernel) (by decide +kernel), (by decide +kernel), ⟨(by decide +kernel), (by decide +kernel), (by decide +kernel)⟩, (by decide +kernel)⟩, tb_k (i := 556) (by decide +kernel) (by decide +kernel), tb_k (i := 557) (by decide +kernel) (by decide +kernel)⟩
def MX4_restore : mj_M := (yX4_restore, cX4_restore, 2, some .int)
theorem okX4_restore : mj_okV MX4_restore 1 := ⟨⟨tb_k (i := 562) (by decide +kernel) (by decide +kernel), tb_k (i := 1) (by decide +kernel) (by decide +kernel), (by decide +kernel), ⟨(by decide +kernel), (by decide +kernel), (by decide +kernel)⟩, (by decide +kernel)⟩, tb_k (i := 560) (by decide +kernel) (by decide +kernel), tb_k (i := 561) (by decide +kernel) (by decide +kernel)⟩
def MX4_kind : mj_M := (yX4_kind, cX4_kind, 2, some .int)
theorem okX4_kind : mj_okV MX4_kind 1 := ⟨⟨tb_k (i := 566) (by decide +kernel) (by decide +kernel), tb_k (i := 1) (by decide +kernel) (by decide +kernel), (by decide +kernel), ⟨(by decide +kernel), (by decide +kernel), (by decide +kernel)⟩, (by decide +kernel)⟩, tb_k (i := 564) (by decide +kernel) (by decide +kernel), tb_k (i := 565) (by decide +kernel) (by decide +kernel)⟩
def MX4_as : mj_M := (yX4_as, cX4_as, 3, some .int)
theorem okX4_as : mj_okV MX4_as 2 := ⟨⟨tb_k (i := 570) (by decide +kernel) (by decide +kernel), tb_k (i := 1) (by decide +kernel) (by decide +kernel), (by decide +kernel), ⟨(by decide +kernel), (by decide +kernel), (by decide +kernel)⟩, (by decide +kernel)⟩, tb_k (i := 568) (by decide +kernel) (by decide +kernel), tb_k (i := 569) (by decide +kernel) (by decide +kernel)⟩
def MX4_ask : mj_M := (yX4_ask, cX4_ask, 3, some .int)
theorem okX4_ask : mj_okV MX4_ask 2 := ⟨⟨tb_k (i := 579) (by decide +kernel) (by decide +kernel), tb_k (i := 1) (by decide +kernel) (by decide +kernel), (by decide +kernel), ⟨(by decide +kernel), (by decide +kernel), (by decide +kernel)⟩, (by decide +kernel)⟩, tb_k (i := 577) (by decide +kernel) (by decide +kernel), tb_k (i := 578) (by decide +kernel) (by decide +kernel)⟩
def MX4_trace : mj_M := (yX4_trace, cX4_trace, 2, some .int)
theorem okX4_trace : mj_okV MX4_trace 1 := ⟨⟨tb_k (i := 602) (by decide +kernel) (by decide +kernel), tb_k (i := 1) (by decide +kernel) (by decide +kernel), (by decide +kernel), ⟨(by decide +kernel), (by decide +kernel), (by decide +kernel)⟩, (by decide +kernel)⟩, tb_k (i := 600) (by decide +kernel) (by decide +kernel), tb_k (i := 601) (by decide +kernel) (by decide +kernel)⟩
def MX4_count : mj_M := (yX4_count, cX4_count, 2, some .int)
theorem okX4_count : mj_okV MX4_count 1 := ⟨⟨tb_k (i := 606) (by decide +kernel) (by decide +kernel), tb_k (i := 1) (by decide +kernel) (by decide +kernel), (by decide +kernel), ⟨(by decide +kernel), (by decide +kernel), (by decide +kernel)⟩, (by decide +kernel)⟩, tb_k (i := 604) (by decide +kernel) (by decide +kernel), tb_k (i := 605) (by decide +kernel) (by decide +kernel)⟩
def MX4_status : mj_M := (yX4_status, cX4_status, 1, some .int)
theorem okX4_status : mj_okV MX4_status 0 := ⟨⟨tb_k (i := 614) (by decide +kernel) (by decide +kernel), tb_k (i := 1) (by decide +kernel) (by decide +kernel), (by decide +kernel), ⟨(by decide +kernel), (by decide +kernel), (by decide +kernel)⟩, (by decide +kernel)⟩, tb_k (i := 612) (by decide +kernel) (by decide +kernel), tb_k (i := 613) (by decide +kernel) (by decide +kernel)⟩
def MX4_isWithin : mj_M := (yX4_isWithin, cX4_isWithin, 3, some .boolean)
theorem okX4_isWithin : mj_okS MX4_isWithin 3 := ⟨⟨tb_k (i := 187) (by decide +kernel) (by decide +kernel), tb_k (i := 1) (by decide +kernel) (by decide +kernel), (by decide +kernel), ⟨(by decide +kernel), (by decide +kernel), (by decide +kernel)⟩, (by decide +kernel)⟩, tb_k (i := 186) (by decide +kernel) (by decide +kernel)⟩
def MX4_isRow : mj_M := (yX4_isRow, cX4_isRow, 1, some .boolean)
theorem okX4_isRow : mj_okS MX4_isRow 1 := ⟨⟨tb_k (i := 184) (by decide +kernel) (by decide +kernel), tb_k (i := 1) (by decide +kernel) (by decide +kernel), (by decide +kernel), ⟨(by decide +kernel), (by decide +kernel), (by decide +kernel)⟩, (by decide +kernel)⟩, tb_k (i := 183) (by decide +kernel) (by decide +kernel)⟩
def MX4_isHouse : mj_M := (yX4_isHouse, cX4_isHouse, 2, some .boolean)
theorem okX4_isHouse : mj_okV MX4_isHouse 1 := ⟨⟨tb_k (i := 377) (by decide +kernel) (by decide +kernel), tb_k (i := 1) (by decide +kernel) (by decide +kernel), (by decide +kernel), ⟨(by decide +kernel), (by decide +kernel), (by decide +kernel)⟩, (by decide +kernel)⟩, tb_k (i := 376) (by decide +kernel) (by decide +kernel), tb_p (i := 11) (by decide +kernel) (by decide +kernel)⟩
def MX4_found : mj_M := (yX4_found, cX4_found, 2, some .int)
theorem okX4_found : mj_okV MX4_found 1 := ⟨⟨tb_k (i := 192) (by decide +kernel) (by decide +kernel), tb_k (i := 1) (by decide +kernel) (by decide +kernel), (by decide +kernel), ⟨(by decide +kernel), (by decide +kernel), (by decide +kernel)⟩, (by decide +kernel)⟩, tb_k (i := 191) (by decide +kernel) (by decide +kernel), tb_p (i := 0) (by decide +kernel) (by decide +kernel)⟩
def MX4_unfound : mj_M := (yX4_unfound, cX4_unfound, 2, some .int)
theorem okX4_unfound : mj_okV MX4_unfound 1 := ⟨⟨tb_k (i := 204) (by decide +kernel) (by decide +kernel), tb_k (i := 1) (by decide +kernel) (by decide +kernel), (by decide +kernel), ⟨(by decide +kernel), (by decide +kernel), (by decide +kernel)⟩, (by decide +kernel)⟩, tb_k (i := 203) (by decide +kernel) (by decide +kernel), tb_p (i := 1) (by decide +kernel) (by decide +kernel)⟩
def MX4_rowsThere : mj_M := (yX4_rowsThere, cX4_rowsThere, 3, some .int)
theorem okX4_rowsThere : mj_okV MX4_rowsThere 0 := ⟨⟨tb_k (i := 610) (by decide +kernel) (by decide +kernel), tb_k (i := 1) (by decide +kernel) (by decide +kernel), (by decide +kernel), ⟨(by decide +kernel), (by decide +kernel), (by decide +kernel)⟩, (by decide +kernel)⟩, tb_k (i := 609) (by decide +kernel) (by decide +kernel), tb_p (i := 21) (by decide +kernel) (by decide +kernel)⟩
def MX4_foreseeHushed : mj_M := (yX4_foreseeHushed, cX4_foreseeHushed, 3, none)
theorem okX4_foreseeHushed : mj_okV MX4_foreseeHushed 2 := ⟨⟨tb_k (i := 468) (by decide +kernel) (by decide +kernel), tb_k (i := 1) (by decide +kernel) (by decide +kernel), (by decide +kernel), ⟨(by decide +kernel), (by decide +kernel), (by decide +kernel)⟩, (by decide +kernel)⟩, tb_k (i := 467) (by decide +kernel) (by decide +kernel), tb_p (i := 13) (by decide +kernel) (by decide +kernel)⟩
def MX4_fewestToHush : mj_M := (yX4_fewestToHush, cX4_fewestToHush, 7, some .int)
theorem okX4_fewestToHush : mj_okV MX4_fewestToHush 2 := ⟨⟨tb_k (i := 458) (by decide +kernel) (by decide +kernel), tb_k (i := 1) (by decide +kernel) (by decide +kernel), (by decide +kernel), ⟨(by decide +kernel), (by decide +kernel), (by decide +kernel)⟩, (by decide +kernel)⟩, tb_k (i := 457) (by decide +kernel) (by decide +kernel), tb_p (i := 12) (by decide +kernel) (by decide +kernel)⟩
def MX4_howManyOrWhich : mj_M := (yX4_howManyOrWhich, cX4_howManyOrWhich, 2, some .int)
theorem okX4_howManyOrWhich : mj_okS MX4_howManyOrWhich 2 := ⟨⟨tb_k (i := 476) (by decide +kernel) (by decide +kernel), tb_k (i := 1) (by decide +kernel) (by decide +kernel), (by decide +kernel), ⟨(by decide +kernel), (by decide +kernel), (by decide +kernel)⟩, (by decide +kernel)⟩, tb_k (i := 475) (by decide +kernel) (by decide +kernel)⟩
def MX4_isAsTold : mj_M := (yX4_isAsTold, cX4_isAsTold, 6, some .boolean)
theorem okX4_isAsTold : mj_okV MX4_isAsTold 4 := ⟨⟨tb_k (i := 516) (by decide +kernel) (by decide +kernel), tb_k (i := 1) (by decide +kernel) (by decide +kernel), (by decide +kernel), ⟨(by decide +kernel), (by decide +kernel), (by decide +kernel)⟩, (by decide +kernel)⟩, tb_k (i := 515) (by decide +kernel) (by decide +kernel), tb_p (i := 15) (by decide +kernel) (by decide +kernel)⟩
def MX4_allThatFit : mj_M := (yX4_allThatFit, cX4_allThatFit, 11, some .int)
theorem okX4_allThatFit : mj_okV MX4_allThatFit 6 := ⟨⟨tb_k (i := 512) (by decide +kernel) (by decide +kernel), tb_k (i := 1) (by decide +kernel) (by decide +kernel), (by decide +kernel), ⟨(by decide +kernel), (by decide +kernel), (by decide +kernel)⟩, (by decide +kernel)⟩, tb_k (i := 511) (by decide +kernel) (by decide +kernel), tb_p (i := 14) (by decide +kernel) (by decide +kernel)⟩
def MX4_silentOnesThatFit : mj_M := (yX4_silentOnesThatFit, cX4_silentOnesThatFit, 7, some .int)
theorem okX4_silentOnesThatFit : mj_okV MX4_silentOnesThatFit 4 := ⟨⟨tb_k (i := 524) (by decide +kernel) (by decide +kernel), tb_k (i := 1) (by decide +kernel) (by decide +kernel), (by decide +kernel), ⟨(by decide +kernel), (by decide +kernel), (by decide +kernel)⟩, (by decide +kernel)⟩, tb_k (i := 523) (by decide +kernel) (by decide +kernel), tb_p (i := 16) (by decide +kernel) (by decide +kernel)⟩
def MX4_casesOverPlank : mj_M := (yX4_casesOverPlank, cX4_casesOverPlank, 8, some .long)
theorem okX4_casesOverPlank : mj_okV MX4_casesOverPlank 2 := ⟨⟨tb_k (i := 534) (by decide +kernel) (by decide +kernel), tb_k (i := 1) (by decide +kernel) (by decide +kernel), (by decide +kernel), ⟨(by decide +kernel), (by decide +kernel), (by decide +kernel)⟩, (by decide +kernel)⟩, tb_k (i := 533) (by decide +kernel) (by decide +kernel), tb_p (i := 17) (by decide +kernel) (by decide +kernel)⟩
def MX4_power : mj_M := (yX4_power, cX4_power, 6, some .long)
theorem okX4_power : mj_okS MX4_power 2 := ⟨⟨tb_k (i := 537) (by decide +kernel) (by decide +kernel), tb_k (i := 1) (by decide +kernel) (by decide +kernel), (by decide +kernel), ⟨(by decide +kernel), (by decide +kernel), (by decide +kernel)⟩, (by decide +kernel)⟩, tb_k (i := 536) (by decide +kernel) (by decide +kernel)⟩
def MX4_commonDivisor : mj_M := (yX4_commonDivisor, cX4_commonDivisor, 11, some .long)
theorem okX4_commonDivisor : mj_okS MX4_commonDivisor 2 := ⟨⟨tb_k (i := 541) (by decide +kernel) (by decide +kernel), tb_k (i := 1) (by decide +kernel) (by decide +kernel), (by decide +kernel), ⟨(by decide +kernel), (by decide +kernel), (by decide +kernel)⟩, (by decide +kernel)⟩, tb_k (i := 540) (by decide +kernel) (by decide +kernel)⟩
def MX4_shedBy : mj_M := (yX4_shedBy, cX4_shedBy, 5, some .int)
theorem okX4_shedBy : mj_okS MX4_shedBy 4 := ⟨⟨tb_k (i := 369) (by decide +kernel) (by decide +kernel), tb_k (i := 1) (by decide +kernel) (by decide +kernel), (by decide +kernel), ⟨(by decide +kernel), (by decide +kernel), (by decide +kernel)⟩, (by decide +kernel)⟩, tb_k (i := 368) (by decide +kernel) (by decide +kernel)⟩
def MX4_isSuch : mj_M := (yX4_isSuch, cX4_isSuch, 4, some .boolean)
theorem okX4_isSuch : mj_okS MX4_isSuch 2 := ⟨⟨tb_k (i := 573) (by decide +kernel) (by decide +kernel), tb_k (i := 1) (by decide +kernel) (by decide +kernel), (by decide +kernel), ⟨(by decide +kernel), (by decide +kernel), (by decide +kernel)⟩, (by decide +kernel)⟩, tb_k (i := 572) (by decide +kernel) (by decide +kernel)⟩
def MX4_bodyFor : mj_M := (yX4_bodyFor, cX4_bodyFor, 5, some .int)
theorem okX4_bodyFor : mj_okS MX4_bodyFor 2 := ⟨⟨tb_k (i := 586) (by decide +kernel) (by decide +kernel), tb_k (i := 1) (by decide +kernel) (by decide +kernel), (by decide +kernel), ⟨(by decide +kernel), (by decide +kernel), (by decide +kernel)⟩, (by decide +kernel)⟩, tb_k (i := 585) (by decide +kernel) (by decide +kernel)⟩
def MX4_answerOf : mj_M := (yX4_answerOf, cX4_answerOf, 4, some .int)
theorem okX4_answerOf : mj_okV MX4_answerOf 3 := ⟨⟨tb_k (i := 583) (by decide +kernel) (by decide +kernel), tb_k (i := 1) (by decide +kernel) (by decide +kernel), (by decide +kernel), ⟨(by decide +kernel), (by decide +kernel), (by decide +kernel)⟩, (by decide +kernel)⟩, tb_k (i := 582) (by decide +kernel) (by decide +kernel), tb_p (i := 18) (by decide +kernel) (by decide +kernel)⟩
def MX4_given : mj_M := (yX4_given, cX4_given, 5, some .int)
theorem okX4_given : mj_okV MX4_given 3 := ⟨⟨tb_k (i := 594) (by decide +kernel) (by decide +kernel), tb_k (i := 1) (by decide +kernel) (by decide +kernel), (by decide +kernel), ⟨(by decide +kernel), (by decide +kernel), (by decide +kernel)⟩, (by decide +kernel)⟩, tb_k (i := 593) (by decide +kernel) (by decide +kernel), tb_p (i := 19) (by decide +kernel) (by decide +kernel)⟩
def MX4_leaveTrace : mj_M := (yX4_leaveTrace, cX4_leaveTrace, 2, none)
theorem okX4_leaveTrace : mj_okV MX4_leaveTrace 1 := ⟨⟨tb_k (i := 598) (by decide +kernel) (by decide +kernel), tb_k (i := 1) (by decide +kernel) (by decide +kernel), (by decide +kernel), ⟨(by decide +kernel), (by decide +kernel), (by decide +kernel)⟩, (by decide +kernel)⟩, tb_k (i := 597) (by decide +kernel) (by decide +kernel), tb_p (i := 20) (by decide +kernel) (by decide +kernel)⟩
def MX5_init : mj_M := (yX5_init, cX5_init, 2, none)
theorem okX5_init : mj_okI MX5_init 0 := ⟨⟨tb_k (i := 619) (by decide +kernel) (by decide +kernel), tb_k (i := 6) (by decide +kernel) (by decide +kernel), (by decide +kernel), ⟨(by decide +kernel), (by decide +kernel), (by decide +kernel)⟩, (by decide +kernel)⟩, tb_k (i := 618) (by decide +kernel) (by decide +kernel), rfl⟩
def MX5_in : mj_M := (yX5_in, cX5_in, 6, some .boolean)
theorem okX5_in : mj_okS MX5_in 3 := ⟨⟨tb_k (i := 702) (by decide +kernel) (by decide +kernel), tb_k (i := 6) (by decide +kernel) (by decide +kernel), (by decide +kernel), ⟨(by decide +kernel), (by decide +kernel), (by decide +kernel)⟩, (by decide +kernel)⟩, tb_k (i := 701) (by decide +kernel) (by decide +kernel)⟩
def MX5_has : mj_M := (yX5_has, cX5_has, 2, some .boolean)
theorem okX5_has : mj_okS MX5_has 2 := ⟨⟨tb_k (i := 800) (by decide +kernel) (by decide +kernel), tb_k (i := 6) (by decide +kernel) (by decide +kernel), (by decide +kernel), ⟨(by decide +kernel), (by decide +kernel), (by decide +kernel)⟩, (by decide +kernel)⟩, tb_k (i := 799) (by decide +kernel) (by decide +kernel)⟩
def MX5_ones : mj_M := (yX5_ones, cX5_ones, 3, some .int)
theorem okX5_ones : mj_okS MX5_ones 1 := ⟨⟨tb_k (i := 895) (by decide +kernel) (by decide +kernel), tb_k (i := 6) (by decide +kernel) (by decide +kernel), (by decide +kernel), ⟨(by decide +kernel), (by decide +kernel), (by decide +kernel)⟩, (by decide +kernel)⟩, tb_k (i := 894) (by decide +kernel) (by decide +kernel)⟩
def MX5_find : mj_M := (yX5_find, cX5_find, 2, some .int)
theorem okX5_find : mj_okV MX5_find 1 := ⟨⟨tb_k (i := 708) (by decide +kernel) (by decide +kernel), tb_k (i := 6) (by decide +kernel) (by decide +kernel), (by decide +kernel), ⟨(by decide +kernel), (by decide +kernel), (by decide +kernel)⟩, (by decide +kernel)⟩, tb_k (i := 707) (by decide +kernel) (by decide +kernel), tb_p (i := 22) (by decide +kernel) (by decide +kernel)⟩
def MX5_well : mj_M := (yX5_well, cX5_well, 2, some .int)
theorem okX5_well : mj_okV MX5_well 1 := ⟨⟨tb_k (i := 713) (by decide +kernel) (by decide +kernel), tb_k (i := 6) (by decide +kernel) (by decide +kernel), (by decide +kernel), ⟨(by decide +kernel), (by decide +kernel), (by decide +kernel)⟩, (by decide +kernel)⟩, tb_k (i := 712) (by decide +kernel) (by decide +kernel), tb_p (i := 23) (by decide +kernel) (by decide +kernel)⟩
def MX5_isRow : mj_M := (yX5_isRow, cX5_isRow, 1, some .boolean)
theorem okX5_isRow : mj_okS MX5_isRow 1 := ⟨⟨tb_k (i := 698) (by decide +kernel) (by decide +kernel), tb_k (i := 6) (by decide +kernel) (by decide +kernel), (by decide +kernel), ⟨(by decide +kernel), (by decide +kernel), (by decide +kernel)⟩, (by decide +kernel)⟩, tb_k (i := 697) (by decide +kernel) (by decide +kernel)⟩
def MX5_row : mj_M := (yX5_row, cX5_row, 5, some .int)
theorem okX5_row : mj_okV MX5_row 3 := ⟨⟨tb_k (i := 695) (by decide +kernel) (by decide +kernel), tb_k (i := 6) (by decide +kernel) (by decide +kernel), (by decide +kernel), ⟨(by decide +kernel), (by decide +kernel), (by decide +kernel)⟩, (by decide +kernel)⟩, tb_k (i := 693) (by decide +kernel) (by decide +kernel), tb_k (i := 694) (by decide +kernel) (by decide +kernel)⟩
def MX5_asLane : mj_M := (yX5_asLane, cX5_asLane, 2, some .int)
theorem okX5_asLane : mj_okS MX5_asLane 2 := ⟨⟨tb_k (i := 720) (by decide +kernel) (by decide +kernel), tb_k (i := 6) (by decide +kernel) (by decide +kernel), (by decide +kernel), ⟨(by decide +kernel), (by decide +kernel), (by decide +kernel)⟩, (by decide +kernel)⟩, tb_k (i := 719) (by decide +kernel) (by decide +kernel)⟩
def MX5_set : mj_M := (yX5_set, cX5_set, 4, some .int)
theorem okX5_set : mj_okV MX5_set 3 := ⟨⟨tb_k (i := 717) (by decide +kernel) (by decide +kernel), tb_k (i := 6) (by decide +kernel) (by decide +kernel), (by decide +kernel), ⟨(by decide +kernel), (by decide +kernel), (by decide +kernel)⟩, (by decide +kernel)⟩, tb_k (i := 715) (by decide +kernel) (by decide +kernel), tb_k (i := 716) (by decide +kernel) (by decide +kernel)⟩
def MX5_copy : mj_M := (yX5_copy, cX5_copy, 7, some .int)
theorem okX5_copy : mj_okV MX5_copy 5 := ⟨⟨tb_k (i := 724) (by decide +kernel) (by decide +kernel), tb_k (i := 6) (by decide +kernel) (by decide +kernel), (by decide +kernel), ⟨(by decide +kernel), (by decide +kernel), (by decide +kernel)⟩, (by decide +kernel)⟩, tb_k (i := 722) (by decide +kernel) (by decide +kernel), tb_k (i := 723) (by decide +kernel) (by decide +kernel)⟩
def MX5_drop : mj_M := (yX5_drop, cX5_drop, 3, some .int)
theorem okX5_drop : mj_okV MX5_drop 1 := ⟨⟨tb_k (i := 728) (by decide +kernel) (by decide +kernel), tb_k (i := 6) (by decide +kernel) (by decide +kernel), (by decide +kernel), ⟨(by decide +kernel), (by decide +kernel), (by decide +kernel)⟩, (by decide +kernel)⟩, tb_k (i := 726) (by decide +kernel) (by decide +kernel), tb_k (i := 727) (by decide +kernel) (by decide +kernel)⟩
def MX5_feed : mj_M := (yX5_feed, cX5_feed, 2, some .int)
theorem okX5_feed : mj_okV MX5_feed 1 := ⟨⟨tb_k (i := 732) (by decide +kernel) (by decide +kernel), tb_k (i := 6) (by decide +kernel) (by decide +kernel), (by decide +kernel), ⟨(by decide +kernel), (by decide +kernel), (by decide +kernel)⟩, (by decide +kernel)⟩, tb_k (i := 730) (by decide +kernel) (by decide +kernel), tb_k (i := 731) (by decide +kernel) (by decide +kernel)⟩
def MX5_nextToken : mj_M := (yX5_nextToken, cX5_nextToken, 1, none)
theorem okX5_nextToken : mj_okV MX5_nextToken 0 := ⟨⟨tb_k (i := 746) (by decide +kernel) (by decide +kernel), tb_k (i := 6) (by decide +kernel) (by decide +kernel), (by decide +kernel), ⟨(by decide +kernel), (by decide +kernel), (by decide +kernel)⟩, (by decide +kernel)⟩, tb_k (i := 745) (by decide +kernel) (by decide +kernel), tb_p (i := 25) (by decide +kernel) (by decide +kernel)⟩
def MX5_faults : mj_M := (yX5_faults, cX5_faults, 2, some .boolean)
theorem okX5_faults : mj_okV MX5_faults 1 := ⟨⟨tb_k (i := 762) (by decide +kernel) (by decide +kernel), tb_k (i := 6) (by decide +kernel) (by decide +kernel), (by decide +kernel), ⟨(by decide +kernel), (by decide +kernel), (by decide +kernel)⟩, (by decide +kernel)⟩, tb_k (i := 761) (by decide +kernel) (by decide +kernel), tb_p (i := 28) (by decide +kernel) (by decide +kernel)⟩
def MX5_isLetter : mj_M := (yX5_isLetter, cX5_isLetter, 2, some .boolean)
theorem okX5_isLetter : mj_okV MX5_isLetter 1 := ⟨⟨tb_k (i := 758) (by decide +kernel) (by decide +kernel), tb_k (i := 6) (by decide +kernel) (by decide +kernel), (by decide +kernel), ⟨(by decide +kernel), (by decide +kernel), (by decide +kernel)⟩, (by decide +kernel)⟩, tb_k (i := 757) (by decide +kernel) (by decide +kernel), tb_p (i := 27) (by decide +kernel) (by decide +kernel)⟩
def MX5_takes : mj_M := (yX5_takes, cX5_takes, 2, some .boolean)
theorem okX5_takes : mj_okV MX5_takes 1 := ⟨⟨tb_k (i := 754) (by decide +kernel) (by decide +kernel), tb_k (i := 6) (by decide +kernel) (by decide +kernel), (by decide +kernel), ⟨(by decide +kernel), (by decide +kernel), (by decide +kernel)⟩, (by decide +kernel)⟩, tb_k (i := 753) (by decide +kernel) (by decide +kernel), tb_p (i := 26) (by decide +kernel) (by decide +kernel)⟩
def MX5_takesNumber : mj_M := (yX5_takesNumber, cX5_takesNumber, 5, some .boolean)
theorem okX5_takesNumber : mj_okV MX5_takesNumber 4 := ⟨⟨tb_k (i := 766) (by decide +kernel) (by decide +kernel), tb_k (i := 6) (by decide +kernel) (by decide +kernel), (by decide +kernel), ⟨(by decide +kernel), (by decide +kernel), (by decide +kernel)⟩, (by decide +kernel)⟩, tb_k (i := 765) (by decide +kernel) (by decide +kernel), tb_p (i := 29) (by decide +kernel) (by decide +kernel)⟩
def MX5_readHouse : mj_M := (yX5_readHouse, cX5_readHouse, 3, some .boolean)
theorem okX5_readHouse : mj_okV MX5_readHouse 0 := ⟨⟨tb_k (i := 770) (by decide +kernel) (by decide +kernel), tb_k (i := 6) (by decide +kernel) (by decide +kernel), (by decide +kernel), ⟨(by decide +kernel), (by decide +kernel), (by decide +kernel)⟩, (by decide +kernel)⟩, tb_k (i := 769) (by decide +kernel) (by decide +kernel), tb_p (i := 30) (by decide +kernel) (by decide +kernel)⟩
def MX5_readStreet : mj_M := (yX5_readStreet, cX5_readStreet, 2, some .boolean)
theorem okX5_readStreet : mj_okV MX5_readStreet 0 := ⟨⟨tb_k (i := 742) (by decide +kernel) (by decide +kernel), tb_k (i := 6) (by decide +kernel) (by decide +kernel), (by decide +kernel), ⟨(by decide +kernel), (by decide +kernel), (by decide +kernel)⟩, (by decide +kernel)⟩, tb_k (i := 741) (by decide +kernel) (by decide +kernel), tb_p (i := 24) (by decide +kernel) (by decide +kernel)⟩
def MX5_street : mj_M := (yX5_street, cX5_street, 3, some .int)
theorem okX5_street : mj_okV MX5_street 0 := ⟨⟨tb_k (i := 738) (by decide +kernel) (by decide +kernel), tb_k (i := 6) (by decide +kernel) (by decide +kernel), (by decide +kernel), ⟨(by decide +kernel), (by decide +kernel), (by decide +kernel)⟩, (by decide +kernel)⟩, tb_k (i := 736) (by decide +kernel) (by decide +kernel), tb_k (i := 737) (by decide +kernel) (by decide +kernel)⟩
def MX5_fault : mj_M := (yX5_fault, cX5_fault, 1, some .int)
theorem okX5_fault : mj_okV MX5_fault 0 := ⟨⟨tb_k (i := 775) (by decide +kernel) (by decide +kernel), tb_k (i := 6) (by decide +kernel) (by decide +kernel), (by decide +kernel), ⟨(by decide +kernel), (by decide +kernel), (by decide +kernel)⟩, (by decide +kernel)⟩, tb_k (i := 773) (by decide +kernel) (by decide +kernel), tb_k (i := 774) (by decide +kernel) (by decide +kernel)⟩
def MX5_isHouse : mj_M := (yX5_isHouse, cX5_isHouse, 2, some .boolean)
theorem okX5_isHouse : mj_okV MX5_isHouse 1 := ⟨⟨tb_k (i := 808) (by decide +kernel) (by decide +kernel), tb_k (i := 6) (by decide +kernel) (by decide +kernel), (by decide +kernel), ⟨(by decide +kernel), (by decide +kernel), (by decide +kernel)⟩, (by decide +kernel)⟩, tb_k (i := 807) (by decide +kernel) (by decide +kernel), tb_p (i := 34) (by decide +kernel) (by decide +kernel)⟩
def MX5_shedsOf : mj_M := (yX5_shedsOf, cX5_shedsOf, 4, some .int)
theorem okX5_shedsOf : mj_okV MX5_shedsOf 1 := ⟨⟨tb_k (i := 797) (by decide +kernel) (by decide +kernel), tb_k (i := 6) (by decide +kernel) (by decide +kernel), (by decide +kernel), ⟨(by decide +kernel), (by decide +kernel), (by decide +kernel)⟩, (by decide +kernel)⟩, tb_k (i := 796) (by decide +kernel) (by decide +kernel), tb_p (i := 33) (by decide +kernel) (by decide +kernel)⟩
def MX5_oneMinute : mj_M := (yX5_oneMinute, cX5_oneMinute, 7, none)
theorem okX5_oneMinute : mj_okV MX5_oneMinute 0 := ⟨⟨tb_k (i := 793) (by decide +kernel) (by decide +kernel), tb_k (i := 6) (by decide +kernel) (by decide +kernel), (by decide +kernel), ⟨(by decide +kernel), (by decide +kernel), (by decide +kernel)⟩, (by decide +kernel)⟩, tb_k (i := 792) (by decide +kernel) (by decide +kernel), tb_p (i := 32) (by decide +kernel) (by decide +kernel)⟩
def MX5_sumOf : mj_M := (yX5_sumOf, cX5_sumOf, 4, some .int)
theorem okX5_sumOf : mj_okV MX5_sumOf 1 := ⟨⟨tb_k (i := 843) (by decide +kernel) (by decide +kernel), tb_k (i := 6) (by decide +kernel) (by decide +kernel), (by decide +kernel), ⟨(by decide +kernel), (by decide +kernel), (by decide +kernel)⟩, (by decide +kernel)⟩, tb_k (i := 842) (by decide +kernel) (by decide +kernel), tb_p (i := 37) (by decide +kernel) (by decide +kernel)⟩
def MX5_letOff : mj_M := (yX5_letOff, cX5_letOff, 2, none)
theorem okX5_letOff : mj_okV MX5_letOff 1 := ⟨⟨tb_k (i := 827) (by decide +kernel) (by decide +kernel), tb_k (i := 6) (by decide +kernel) (by decide +kernel), (by decide +kernel), ⟨(by decide +kernel), (by decide +kernel), (by decide +kernel)⟩, (by decide +kernel)⟩, tb_k (i := 826) (by decide +kernel) (by decide +kernel), tb_p (i := 35) (by decide +kernel) (by decide +kernel)⟩
def MX5_isOver : mj_M := (yX5_isOver, cX5_isOver, 1, some .boolean)
theorem okX5_isOver : mj_okV MX5_isOver 0 := ⟨⟨tb_k (i := 839) (by decide +kernel) (by decide +kernel), tb_k (i := 6) (by decide +kernel) (by decide +kernel), (by decide +kernel), ⟨(by decide +kernel), (by decide +kernel), (by decide +kernel)⟩, (by decide +kernel)⟩, tb_k (i := 838) (by decide +kernel) (by decide +kernel), tb_p (i := 36) (by decide +kernel) (by decide +kernel)⟩
def MX5_note : mj_M := (yX5_note, cX5_note, 2, none)
theorem okX5_note : mj_okV MX5_note 0 := ⟨⟨tb_k (i := 789) (by decide +kernel) (by decide +kernel), tb_k (i := 6) (by decide +kernel) (by decide +kernel), (by decide +kernel), ⟨(by decide +kernel), (by decide +kernel), (by decide +kernel)⟩, (by decide +kernel)⟩, tb_k (i := 788) (by decide +kernel) (by decide +kernel), tb_p (i := 31) (by decide +kernel) (by decide +kernel)⟩
def MX5_undo : mj_M := (yX5_undo, cX5_undo, 2, some .int)
theorem okX5_undo : mj_okV MX5_undo 0 := ⟨⟨tb_k (i := 779) (by decide +kernel) (by decide +kernel), tb_k (i := 6) (by decide +kernel) (by decide +kernel), (by decide +kernel), ⟨(by decide +kernel), (by decide +kernel), (by decide +kernel)⟩, (by decide +kernel)⟩, tb_k (i := 777) (by decide +kernel) (by decide +kernel), tb_k (i := 778) (by decide +kernel) (by decide +kernel)⟩
def MX5_minutes : mj_M := (yX5_minutes, cX5_minutes, 3, some .int)
theorem okX5_minutes : mj_okV MX5_minutes 1 := ⟨⟨tb_k (i := 784) (by decide +kernel) (by decide +kernel), tb_k (i := 6) (by decide +kernel) (by decide +kernel), (by decide +kernel), ⟨(by decide +kernel), (by decide +kernel), (by decide +kernel)⟩, (by decide +kernel)⟩, tb_k (i := 782) (by decide +kernel) (by decide +kernel), tb_k (i := 783) (by decide +kernel) (by decide +kernel)⟩
def MX5_talk : mj_M := (yX5_talk, cX5_talk, 4, some .int)
theorem okX5_talk : mj_okV MX5_talk 2 := ⟨⟨tb_k (i := 804) (by decide +kernel) (by decide +kernel), tb_k (i := 6) (by decide +kernel) (by decide +kernel), (by decide +kernel), ⟨(by decide +kernel), (by decide +kernel), (by decide +kernel)⟩, (by decide +kernel)⟩, tb_k (i := 802) (by decide +kernel) (by decide +kernel), tb_k (i := 803) (by decide +kernel) (by decide +kernel)⟩
def MX5_hush : mj_M := (yX5_hush, cX5_hush, 3, some .int)
theorem okX5_hush : mj_okV MX5_hush 2 := ⟨⟨tb_k (i := 813) (by decide +kernel) (by decide +kernel), tb_k (i := 6) (by decide +kernel) (by decide +kernel), (by decide +kernel), ⟨(by decide +kernel), (by decide +kernel), (by decide +kernel)⟩, (by decide +kernel)⟩, tb_k (i := 811) (by decide +kernel) (by decide +kernel), tb_k (i := 812) (by decide +kernel) (by decide +kernel)⟩
def MX5_bars : mj_M := (yX5_bars, cX5_bars, 4, some .int)
theorem okX5_bars : mj_okV MX5_bars 2 := ⟨⟨tb_k (i := 817) (by decide +kernel) (by decide +kernel), tb_k (i := 6) (by decide +kernel) (by decide +kernel), (by decide +kernel), ⟨(by decide +kernel), (by decide +kernel), (by decide +kernel)⟩, (by decide +kernel)⟩, tb_k (i := 815) (by decide +kernel) (by decide +kernel), tb_k (i := 816) (by decide +kernel) (by decide +kernel)⟩
def MX5_letDown : mj_M := (yX5_letDown, cX5_letDown, 2, some .int)
theorem okX5_letDown : mj_okV MX5_letDown 1 := ⟨⟨tb_k (i := 822) (by decide +kernel) (by decide +kernel), tb_k (i := 6) (by decide +kernel) (by decide +kernel), (by decide +kernel), ⟨(by decide +kernel), (by decide +kernel), (by decide +kernel)⟩, (by decide +kernel)⟩, tb_k (i := 820) (by decide +kernel) (by decide +kernel), tb_k (i := 821) (by decide +kernel) (by decide +kernel)⟩
def MX5_house : mj_M := (yX5_house, cX5_house, 3, some .int)
theorem okX5_house : mj_okV MX5_house 2 := ⟨⟨tb_k (i := 831) (by decide +kernel) (by decide +kernel), tb_k (i := 6) (by decide +kernel) (by decide +kernel), (by decide +kernel), ⟨(by decide +kernel), (by decide +kernel), (by decide +kernel)⟩, (by decide +kernel)⟩, tb_k (i := 829) (by decide +kernel) (by decide +kernel), tb_k (i := 830) (by decide +kernel) (by decide +kernel)⟩
def MX5_stand : mj_M := (yX5_stand, cX5_stand, 2, some .int)
theorem okX5_stand : mj_okV MX5_stand 1 := ⟨⟨tb_k (i := 835) (by decide +kernel) (by decide +kernel), tb_k (i := 6) (by decide +kernel) (by decide +kernel), (by decide +kernel), ⟨(by decide +kernel), (by decide +kernel), (by decide +kernel)⟩, (by decide +kernel)⟩, tb_k (i := 833) (by decide +kernel) (by decide +kernel), tb_k (i := 834) (by decide +kernel) (by decide +kernel)⟩
def MX5_putAside : mj_M := (yX5_putAside, cX5_putAside, 2, none)
theorem okX5_putAside : mj_okV MX5_putAside 0 := ⟨⟨tb_k (i := 851) (by decide +kernel) (by decide +kernel), tb_k (i := 6) (by decide +kernel) (by decide +kernel), (by decide +kernel), ⟨(by decide +kernel), (by decide +kernel), (by decide +kernel)⟩, (by decide +kernel)⟩, tb_k (i := 850) (by decide +kernel) (by decide +kernel), tb_p (i := 38) (by decide +kernel) (by decide +kernel)⟩
def MX5_takeBack : mj_M := (yX5_takeBack, cX5_takeBack, 2, none)
theorem okX5_takeBack : mj_okV MX5_takeBack 0 := ⟨⟨tb_k (i := 859) (by decide +kernel) (by decide +kernel), tb_k (i := 6) (by decide +kernel) (by decide +kernel), (by decide +kernel), ⟨(by decide +kernel), (by decide +kernel), (by decide +kernel)⟩, (by decide +kernel)⟩, tb_k (i := 858) (by decide +kernel) (by decide +kernel), tb_p (i := 40) (by decide +kernel) (by decide +kernel)⟩
def MX5_goOn : mj_M := (yX5_goOn, cX5_goOn, 3, none)
theorem okX5_goOn : mj_okV MX5_goOn 1 := ⟨⟨tb_k (i := 855) (by decide +kernel) (by decide +kernel), tb_k (i := 6) (by decide +kernel) (by decide +kernel), (by decide +kernel), ⟨(by decide +kernel), (by decide +kernel), (by decide +kernel)⟩, (by decide +kernel)⟩, tb_k (i := 854) (by decide +kernel) (by decide +kernel), tb_p (i := 39) (by decide +kernel) (by decide +kernel)⟩
def MX5_isWhat : mj_M := (yX5_isWhat, cX5_isWhat, 1, some .boolean)
theorem okX5_isWhat : mj_okS MX5_isWhat 1 := ⟨⟨tb_k (i := 866) (by decide +kernel) (by decide +kernel), tb_k (i := 6) (by decide +kernel) (by decide +kernel), (by decide +kernel), ⟨(by decide +kernel), (by decide +kernel), (by decide +kernel)⟩, (by decide +kernel)⟩, tb_k (i := 865) (by decide +kernel) (by decide +kernel)⟩
def MX5_ahead : mj_M := (yX5_ahead, cX5_ahead, 4, some .int)
theorem okX5_ahead : mj_okV MX5_ahead 2 := ⟨⟨tb_k (i := 847) (by decide +kernel) (by decide +kernel), tb_k (i := 6) (by decide +kernel) (by decide +kernel), (by decide +kernel), ⟨(by decide +kernel), (by decide +kernel), (by decide +kernel)⟩, (by decide +kernel)⟩, tb_k (i := 845) (by decide +kernel) (by decide +kernel), tb_k (i := 846) (by decide +kernel) (by decide +kernel)⟩
def MX5_pond : mj_M := (yX5_pond, cX5_pond, 4, some .int)
theorem okX5_pond : mj_okV MX5_pond 2 := ⟨⟨tb_k (i := 863) (by decide +kernel) (by decide +kernel), tb_k (i := 6) (by decide +kernel) (by decide +kernel), (by decide +kernel), ⟨(by decide +kernel), (by decide +kernel), (by decide +kernel)⟩, (by decide +kernel)⟩, tb_k (i := 861) (by decide +kernel) (by decide +kernel), tb_k (i := 862) (by decide +kernel) (by decide +kernel)⟩
def MX5_over : mj_M := (yX5_over, cX5_over, 3, some .int)
theorem okX5_over : mj_okV MX5_over 0 := ⟨⟨tb_k (i := 870) (by decide +kernel) (by decide +kernel), tb_k (i := 6) (by decide +kernel) (by decide +kernel), (by decide +kernel), ⟨(by decide +kernel), (by decide +kernel), (by decide +kernel)⟩, (by decide +kernel)⟩, tb_k (i := 868) (by decide +kernel) (by decide +kernel), tb_k (i := 869) (by decide +kernel) (by decide +kernel)⟩
def MX5_fullNow : mj_M := (yX5_fullNow, cX5_fullNow, 3, some .int)
theorem okX5_fullNow : mj_okV MX5_fullNow 0 := ⟨⟨tb_k (i := 879) (by decide +kernel) (by decide +kernel), tb_k (i := 6) (by decide +kernel) (by decide +kernel), (by decide +kernel), ⟨(by decide +kernel), (by decide +kernel), (by decide +kernel)⟩, (by decide +kernel)⟩, tb_k (i := 878) (by decide +kernel) (by decide +kernel), tb_p (i := 41) (by decide +kernel) (by decide +kernel)⟩
def MX5_full : mj_M := (yX5_full, cX5_full, 4, some .int)
theorem okX5_full : mj_okV MX5_full 1 := ⟨⟨tb_k (i := 875) (by decide +kernel) (by decide +kernel), tb_k (i := 6) (by decide +kernel) (by decide +kernel), (by decide +kernel), ⟨(by decide +kernel), (by decide +kernel), (by decide +kernel)⟩, (by decide +kernel)⟩, tb_k (i := 873) (by decide +kernel) (by decide +kernel), tb_k (i := 874) (by decide +kernel) (by decide +kernel)⟩
def MX5_most : mj_M := (yX5_most, cX5_most, 7, some .int)
theorem okX5_most : mj_okV MX5_most 3 := ⟨⟨tb_k (i := 883) (by decide +kernel) (by decide +kernel), tb_k (i := 6) (by decide +kernel) (by decide +kernel), (by decide +kernel), ⟨(by decide +kernel), (by decide +kernel), (by decide +kernel)⟩, (by decide +kernel)⟩, tb_k (i := 881) (by decide +kernel) (by decide +kernel), tb_k (i := 882) (by decide +kernel) (by decide +kernel)⟩
def MX5_quietBy : mj_M := (yX5_quietBy, cX5_quietBy, 7, some .int)
theorem okX5_quietBy : mj_okV MX5_quietBy 2 := ⟨⟨tb_k (i := 892) (by decide +kernel) (by decide +kernel), tb_k (i := 6) (by decide +kernel) (by decide +kernel), (by decide +kernel), ⟨(by decide +kernel), (by decide +kernel), (by decide +kernel)⟩, (by decide +kernel)⟩, tb_k (i := 891) (by decide +kernel) (by decide +kernel), tb_p (i := 42) (by decide +kernel) (by decide +kernel)⟩
def MX5_hushes : mj_M := (yX5_hushes, cX5_hushes, 5, some .int)
theorem okX5_hushes : mj_okV MX5_hushes 3 := ⟨⟨tb_k (i := 887) (by decide +kernel) (by decide +kernel), tb_k (i := 6) (by decide +kernel) (by decide +kernel), (by decide +kernel), ⟨(by decide +kernel), (by decide +kernel), (by decide +kernel)⟩, (by decide +kernel)⟩, tb_k (i := 885) (by decide +kernel) (by decide +kernel), tb_k (i := 886) (by decide +kernel) (by decide +kernel)⟩
def MX5_spares : mj_M := (yX5_spares, cX5_spares, 4, some .int)
theorem okX5_spares : mj_okV MX5_spares 2 := ⟨⟨tb_k (i := 899) (by decide +kernel) (by decide +kernel), tb_k (i := 6) (by decide +kernel) (by decide +kernel), (by decide +kernel), ⟨(by decide +kernel), (by decide +kernel), (by decide +kernel)⟩, (by decide +kernel)⟩, tb_k (i := 897) (by decide +kernel) (by decide +kernel), tb_k (i := 898) (by decide +kernel) (by decide +kernel)⟩
def MX5_pondBy : mj_M := (yX5_pondBy, cX5_pondBy, 3, some .int)
theorem okX5_pondBy : mj_okV MX5_pondBy 1 := ⟨⟨tb_k (i := 908) (by decide +kernel) (by decide +kernel), tb_k (i := 6) (by decide +kernel) (by decide +kernel), (by decide +kernel), ⟨(by decide +kernel), (by decide +kernel), (by decide +kernel)⟩, (by decide +kernel)⟩, tb_k (i := 907) (by decide +kernel) (by decide +kernel), tb_p (i := 43) (by decide +kernel) (by decide +kernel)⟩
def MX5_catches : mj_M := (yX5_catches, cX5_catches, 7, some .int)
theorem okX5_catches : mj_okV MX5_catches 2 := ⟨⟨tb_k (i := 903) (by decide +kernel) (by decide +kernel), tb_k (i := 6) (by decide +kernel) (by decide +kernel), (by decide +kernel), ⟨(by decide +kernel), (by decide +kernel), (by decide +kernel)⟩, (by decide +kernel)⟩, tb_k (i := 901) (by decide +kernel) (by decide +kernel), tb_k (i := 902) (by decide +kernel) (by decide +kernel)⟩
def MX5_from : mj_M := (yX5_from, cX5_from, 4, some .int)
theorem okX5_from : mj_okV MX5_from 2 := ⟨⟨tb_k (i := 912) (by decide +kernel) (by decide +kernel), tb_k (i := 6) (by decide +kernel) (by decide +kernel), (by decide +kernel), ⟨(by decide +kernel), (by decide +kernel), (by decide +kernel)⟩, (by decide +kernel)⟩, tb_k (i := 910) (by decide +kernel) (by decide +kernel), tb_k (i := 911) (by decide +kernel) (by decide +kernel)⟩
def MX5_loud : mj_M := (yX5_loud, cX5_loud, 5, some .int)
theorem okX5_loud : mj_okV MX5_loud 2 := ⟨⟨tb_k (i := 916) (by decide +kernel) (by decide +kernel), tb_k (i := 6) (by decide +kernel) (by decide +kernel), (by decide +kernel), ⟨(by decide +kernel), (by decide +kernel), (by decide +kernel)⟩, (by decide +kernel)⟩, tb_k (i := 914) (by decide +kernel) (by decide +kernel), tb_k (i := 915) (by decide +kernel) (by decide +kernel)⟩
def MX5_dry : mj_M := (yX5_dry, cX5_dry, 3, some .int)
theorem okX5_dry : mj_okV MX5_dry 0 := ⟨⟨tb_k (i := 920) (by decide +kernel) (by decide +kernel), tb_k (i := 6) (by decide +kernel) (by decide +kernel), (by decide +kernel), ⟨(by decide +kernel), (by decide +kernel), (by decide +kernel)⟩, (by decide +kernel)⟩, tb_k (i := 918) (by decide +kernel) (by decide +kernel), tb_k (i := 919) (by decide +kernel) (by decide +kernel)⟩
def MX5_lag : mj_M := (yX5_lag, cX5_lag, 4, some .int)
theorem okX5_lag : mj_okV MX5_lag 1 := ⟨⟨tb_k (i := 924) (by decide +kernel) (by decide +kernel), tb_k (i := 6) (by decide +kernel) (by decide +kernel), (by decide +kernel), ⟨(by decide +kernel), (by decide +kernel), (by decide +kernel)⟩, (by decide +kernel)⟩, tb_k (i := 922) (by decide +kernel) (by decide +kernel), tb_k (i := 923) (by decide +kernel) (by decide +kernel)⟩
def MX5_lacks : mj_M := (yX5_lacks, cX5_lacks, 4, some .int)
theorem okX5_lacks : mj_okV MX5_lacks 3 := ⟨⟨tb_k (i := 932) (by decide +kernel) (by decide +kernel), tb_k (i := 6) (by decide +kernel) (by decide +kernel), (by decide +kernel), ⟨(by decide +kernel), (by decide +kernel), (by decide +kernel)⟩, (by decide +kernel)⟩, tb_k (i := 931) (by decide +kernel) (by decide +kernel), tb_p (i := 44) (by decide +kernel) (by decide +kernel)⟩
def MX5_isSo : mj_M := (yX5_isSo, cX5_isSo, 6, some .boolean)
theorem okX5_isSo : mj_okV MX5_isSo 3 := ⟨⟨tb_k (i := 937) (by decide +kernel) (by decide +kernel), tb_k (i := 6) (by decide +kernel) (by decide +kernel), (by decide +kernel), ⟨(by decide +kernel), (by decide +kernel), (by decide +kernel)⟩, (by decide +kernel)⟩, tb_k (i := 936) (by decide +kernel) (by decide +kernel), tb_p (i := 45) (by decide +kernel) (by decide +kernel)⟩
def MX5_who : mj_M := (yX5_who, cX5_who, 11, some .int)
theorem okX5_who : mj_okV MX5_who 6 := ⟨⟨tb_k (i := 928) (by decide +kernel) (by decide +kernel), tb_k (i := 6) (by decide +kernel) (by decide +kernel), (by decide +kernel), ⟨(by decide +kernel), (by decide +kernel), (by decide +kernel)⟩, (by decide +kernel)⟩, tb_k (i := 926) (by decide +kernel) (by decide +kernel), tb_k (i := 927) (by decide +kernel) (by decide +kernel)⟩
def MX5_silent : mj_M := (yX5_silent, cX5_silent, 8, some .int)
theorem okX5_silent : mj_okV MX5_silent 4 := ⟨⟨tb_k (i := 941) (by decide +kernel) (by decide +kernel), tb_k (i := 6) (by decide +kernel) (by decide +kernel), (by decide +kernel), ⟨(by decide +kernel), (by decide +kernel), (by decide +kernel)⟩, (by decide +kernel)⟩, tb_k (i := 939) (by decide +kernel) (by decide +kernel), tb_k (i := 940) (by decide +kernel) (by decide +kernel)⟩
def MX5_hushed : mj_M := (yX5_hushed, cX5_hushed, 15, some .long)
theorem okX5_hushed : mj_okV MX5_hushed 3 := ⟨⟨tb_k (i := 945) (by decide +kernel) (by decide +kernel), tb_k (i := 6) (by decide +kernel) (by decide +kernel), (by decide +kernel), ⟨(by decide +kernel), (by decide +kernel), (by decide +kernel)⟩, (by decide +kernel)⟩, tb_k (i := 943) (by decide +kernel) (by decide +kernel), tb_k (i := 944) (by decide +kernel) (by decide +kernel)⟩
def MX5_drawn : mj_M := (yX5_drawn, cX5_drawn, 8, some .int)
theorem okX5_drawn : mj_okV MX5_drawn 3 := ⟨⟨tb_k (i := 952) (by decide +kernel) (by decide +kernel), tb_k (i := 6) (by decide +kernel) (by decide +kernel), (by decide +kernel), ⟨(by decide +kernel), (by decide +kernel), (by decide +kernel)⟩, (by decide +kernel)⟩, tb_k (i := 950) (by decide +kernel) (by decide +kernel), tb_k (i := 951) (by decide +kernel) (by decide +kernel)⟩
def MX5_image : mj_M := (yX5_image, cX5_image, 3, some .int)
theorem okX5_image : mj_okV MX5_image 1 := ⟨⟨tb_k (i := 961) (by decide +kernel) (by decide +kernel), tb_k (i := 6) (by decide +kernel) (by decide +kernel), (by decide +kernel), ⟨(by decide +kernel), (by decide +kernel), (by decide +kernel)⟩, (by decide +kernel)⟩, tb_k (i := 959) (by decide +kernel) (by decide +kernel), tb_k (i := 960) (by decide +kernel) (by decide +kernel)⟩
def MX5_restore : mj_M := (yX5_restore, cX5_restore, 3, some .int)
theorem okX5_restore : mj_okV MX5_restore 1 := ⟨⟨tb_k (i := 965) (by decide +kernel) (by decide +kernel), tb_k (i := 6) (by decide +kernel) (by decide +kernel), (by decide +kernel), ⟨(by decide +kernel), (by decide +kernel), (by decide +kernel)⟩, (by decide +kernel)⟩, tb_k (i := 963) (by decide +kernel) (by decide +kernel), tb_k (i := 964) (by decide +kernel) (by decide +kernel)⟩
def MX5_kind : mj_M := (yX5_kind, cX5_kind, 2, some .int)
theorem okX5_kind : mj_okV MX5_kind 1 := ⟨⟨tb_k (i := 969) (by decide +kernel) (by decide +kernel), tb_k (i := 6) (by decide +kernel) (by decide +kernel), (by decide +kernel), ⟨(by decide +kernel), (by decide +kernel), (by decide +kernel)⟩, (by decide +kernel)⟩, tb_k (i := 967) (by decide +kernel) (by decide +kernel), tb_k (i := 968) (by decide +kernel) (by decide +kernel)⟩
def MX5_isKind : mj_M := (yX5_isKind, cX5_isKind, 2, some .boolean)
theorem okX5_isKind : mj_okS MX5_isKind 2 := ⟨⟨tb_k (i := 977) (by decide +kernel) (by decide +kernel), tb_k (i := 6) (by decide +kernel) (by decide +kernel), (by decide +kernel), ⟨(by decide +kernel), (by decide +kernel), (by decide +kernel)⟩, (by decide +kernel)⟩, tb_k (i := 976) (by decide +kernel) (by decide +kernel)⟩
def MX5_as : mj_M := (yX5_as, cX5_as, 3, some .int)
theorem okX5_as : mj_okV MX5_as 2 := ⟨⟨tb_k (i := 973) (by decide +kernel) (by decide +kernel), tb_k (i := 6) (by decide +kernel) (by decide +kernel), (by decide +kernel), ⟨(by decide +kernel), (by decide +kernel), (by decide +kernel)⟩, (by decide +kernel)⟩, tb_k (i := 971) (by decide +kernel) (by decide +kernel), tb_k (i := 972) (by decide +kernel) (by decide +kernel)⟩
def MX5_begin : mj_M := (yX5_begin, cX5_begin, 2, none)
theorem okX5_begin : mj_okV MX5_begin 1 := ⟨⟨tb_k (i := 989) (by decide +kernel) (by decide +kernel), tb_k (i := 6) (by decide +kernel) (by decide +kernel), (by decide +kernel), ⟨(by decide +kernel), (by decide +kernel), (by decide +kernel)⟩, (by decide +kernel)⟩, tb_k (i := 988) (by decide +kernel) (by decide +kernel), tb_p (i := 47) (by decide +kernel) (by decide +kernel)⟩
def MX5_lent : mj_M := (yX5_lent, cX5_lent, 3, some .int)
theorem okX5_lent : mj_okV MX5_lent 2 := ⟨⟨tb_k (i := 997) (by decide +kernel) (by decide +kernel), tb_k (i := 6) (by decide +kernel) (by decide +kernel), (by decide +kernel), ⟨(by decide +kernel), (by decide +kernel), (by decide +kernel)⟩, (by decide +kernel)⟩, tb_k (i := 996) (by decide +kernel) (by decide +kernel), tb_p (i := 49) (by decide +kernel) (by decide +kernel)⟩
def MX5_kindlyMark : mj_M := (yX5_kindlyMark, cX5_kindlyMark, 2, some .int)
theorem okX5_kindlyMark : mj_okV MX5_kindlyMark 1 := ⟨⟨tb_k (i := 1005) (by decide +kernel) (by decide +kernel), tb_k (i := 6) (by decide +kernel) (by decide +kernel), (by decide +kernel), ⟨(by decide +kernel), (by decide +kernel), (by decide +kernel)⟩, (by decide +kernel)⟩, tb_k (i := 1004) (by decide +kernel) (by decide +kernel), tb_p (i := 51) (by decide +kernel) (by decide +kernel)⟩
def MX5_silentSize : mj_M := (yX5_silentSize, cX5_silentSize, 2, some .int)
theorem okX5_silentSize : mj_okV MX5_silentSize 1 := ⟨⟨tb_k (i := 1013) (by decide +kernel) (by decide +kernel), tb_k (i := 6) (by decide +kernel) (by decide +kernel), (by decide +kernel), ⟨(by decide +kernel), (by decide +kernel), (by decide +kernel)⟩, (by decide +kernel)⟩, tb_k (i := 1012) (by decide +kernel) (by decide +kernel), tb_p (i := 53) (by decide +kernel) (by decide +kernel)⟩
def MX5_sizeOfSilent : mj_M := (yX5_sizeOfSilent, cX5_sizeOfSilent, 2, some .int)
theorem okX5_sizeOfSilent : mj_okV MX5_sizeOfSilent 1 := ⟨⟨tb_k (i := 1009) (by decide +kernel) (by decide +kernel), tb_k (i := 6) (by decide +kernel) (by decide +kernel), (by decide +kernel), ⟨(by decide +kernel), (by decide +kernel), (by decide +kernel)⟩, (by decide +kernel)⟩, tb_k (i := 1008) (by decide +kernel) (by decide +kernel), tb_p (i := 52) (by decide +kernel) (by decide +kernel)⟩
def MX5_markOf : mj_M := (yX5_markOf, cX5_markOf, 4, some .int)
theorem okX5_markOf : mj_okV MX5_markOf 1 := ⟨⟨tb_k (i := 1001) (by decide +kernel) (by decide +kernel), tb_k (i := 6) (by decide +kernel) (by decide +kernel), (by decide +kernel), ⟨(by decide +kernel), (by decide +kernel), (by decide +kernel)⟩, (by decide +kernel)⟩, tb_k (i := 1000) (by decide +kernel) (by decide +kernel), tb_p (i := 50) (by decide +kernel) (by decide +kernel)⟩
def MX5_kindlySize : mj_M := (yX5_kindlySize, cX5_kindlySize, 3, some .int)
theorem okX5_kindlySize : mj_okV MX5_kindlySize 1 := ⟨⟨tb_k (i := 993) (by decide +kernel) (by decide +kernel), tb_k (i := 6) (by decide +kernel) (by decide +kernel), (by decide +kernel), ⟨(by decide +kernel), (by decide +kernel), (by decide +kernel)⟩, (by decide +kernel)⟩, tb_k (i := 992) (by decide +kernel) (by decide +kernel), tb_p (i := 48) (by decide +kernel) (by decide +kernel)⟩
def MX5_sizeOf : mj_M := (yX5_sizeOf, cX5_sizeOf, 3, some .int)
theorem okX5_sizeOf : mj_okV MX5_sizeOf 1 := ⟨⟨tb_k (i := 985) (by decide +kernel) (by decide +kernel), tb_k (i := 6) (by decide +kernel) (by decide +kernel), (by decide +kernel), ⟨(by decide +kernel), (by decide +kernel), (by decide +kernel)⟩, (by decide +kernel)⟩, tb_k (i := 984) (by decide +kernel) (by decide +kernel), tb_p (i := 46) (by decide +kernel) (by decide +kernel)⟩
def MX5_ask : mj_M := (yX5_ask, cX5_ask, 3, some .int)
theorem okX5_ask : mj_okV MX5_ask 2 := ⟨⟨tb_k (i := 981) (by decide +kernel) (by decide +kernel), tb_k (i := 6) (by decide +kernel) (by decide +kernel), (by decide +kernel), ⟨(by decide +kernel), (by decide +kernel), (by decide +kernel)⟩, (by decide +kernel)⟩, tb_k (i := 979) (by decide +kernel) (by decide +kernel), tb_k (i := 980) (by decide +kernel) (by decide +kernel)⟩
def MX5_trace : mj_M := (yX5_trace, cX5_trace, 2, some .int)
theorem okX5_trace : mj_okV MX5_trace 1 := ⟨⟨tb_k (i := 1017) (by decide +kernel) (by decide +kernel), tb_k (i := 6) (by decide +kernel) (by decide +kernel), (by decide +kernel), ⟨(by decide +kernel), (by decide +kernel), (by decide +kernel)⟩, (by decide +kernel)⟩, tb_k (i := 1015) (by decide +kernel) (by decide +kernel), tb_k (i := 1016) (by decide +kernel) (by decide +kernel)⟩
def MX5_count : mj_M := (yX5_count, cX5_count, 4, some .int)
theorem okX5_count : mj_okV MX5_count 1 := ⟨⟨tb_k (i := 1021) (by decide +kernel) (by decide +kernel), tb_k (i := 6) (by decide +kernel) (by decide +kernel), (by decide +kernel), ⟨(by decide +kernel), (by decide +kernel), (by decide +kernel)⟩, (by decide +kernel)⟩, tb_k (i := 1019) (by decide +kernel) (by decide +kernel), tb_k (i := 1020) (by decide +kernel) (by decide +kernel)⟩
def MX5_status : mj_M := (yX5_status, cX5_status, 1, some .int)
theorem okX5_status : mj_okV MX5_status 0 := ⟨⟨tb_k (i := 1025) (by decide +kernel) (by decide +kernel), tb_k (i := 6) (by decide +kernel) (by decide +kernel), (by decide +kernel), ⟨(by decide +kernel), (by decide +kernel), (by decide +kernel)⟩, (by decide +kernel)⟩, tb_k (i := 1023) (by decide +kernel) (by decide +kernel), tb_k (i := 1024) (by decide +kernel) (by decide +kernel)⟩
def MJ6_bitCount_0f7a4 : mj_M := (yJ6_bitCount_0f7a4, cJ6_bitCount_0f7a4, 1, some .int)
theorem okJ6_bitCount_0f7a4 : mj_okS MJ6_bitCount_0f7a4 1 := ⟨⟨tb_k (i := 461) (by decide +kernel) (by decide +kernel), tb_k (i := 10) (by decide +kernel) (by decide +kernel), (by decide +kernel), ⟨(by decide +kernel), (by decide +kernel), (by decide +kernel)⟩, (by decide +kernel)⟩, tb_k (i := 460) (by decide +kernel) (by decide +kernel)⟩
def MJ7_fill_53178 : mj_M := (yJ7_fill_53178, cJ7_fill_53178, 4, none)
theorem okJ7_fill_53178 : mj_okS MJ7_fill_53178 2 := ⟨⟨tb_k (i := 200) (by decide +kernel) (by decide +kernel), tb_k (i := 7) (by decide +kernel) (by decide +kernel), (by decide +kernel), ⟨(by decide +kernel), (by decide +kernel), (by decide +kernel)⟩, (by decide +kernel)⟩, tb_k (i := 199) (by decide +kernel) (by decide +kernel)⟩
def ML_law : mj_M := (yL_law, cL_law, 4, some .boolean)
theorem wd_L_7 : Cond.classLink RL 7 "NearlySaid" ∈ mj_T := tb_k (i := 11) (by decide +kernel) (by decide +kernel)
theorem wd_L_9 : Cond.methodLink RL 9 yX4_init ∈ mj_T := tb_k (i := 13) (by decide +kernel) (by decide +kernel)
theorem wd_X4_1 : Cond.methodLink RX4 1 objectInit ∈ mj_T := tb_k (i := 16) (by decide +kernel) (by decide +kernel)
theorem wd_X4_9 : Cond.classLink RX4 9 "NearlySaid$Row" ∈ mj_T := tb_k (i := 19) (by decide +kernel) (by decide +kernel)
theorem wd_X4_15 : Cond.classLink RX4 15 "NearlySaid$Tape" ∈ mj_T := tb_k (i := 21) (by decide +kernel) (by decide +kernel)
theorem wd_X4_17 : Cond.methodLink RX4 17 yX3_init ∈ mj_T := tb_k (i := 23) (by decide +kernel) (by decide +kernel)
theorem wd_X3_3 : Cond.methodLink RX3 3 objectInit ∈ mj_T := tb_k (i := 26) (by decide +kernel) (by decide +kernel)
theorem wd_X3_9 : Cond.fieldLink RX3 9 "NearlySaid$Tape" "bytes" "[I" ∈ mj_T := tb_k (i := 27) (by decide +kernel) (by decide +kernel)
theorem wd_X3_15 : Cond.fieldLink RX3 15 "NearlySaid$Tape" "length" "I" ∈ mj_T := tb_k (i := 28) (by decide +kernel) (by decide +kernel)
theorem wd_X4_102 : Cond.fieldLink RX4 102 "NearlySaid$Tape" "length" "I" ∈ mj_T := tb_k (i := 29) (by decide +kernel) (by decide +kernel)
theorem wd_X4_117 : Cond.fieldLink RX4 117 "NearlySaid$Tape" "at" "I" ∈ mj_T := tb_k (i := 30) (by decide +kernel) (by decide +kernel)
theorem wd_X3_77 : Cond.fieldLink RX3 77 "NearlySaid$Tape" "at" "I" ∈ mj_T := tb_k (i := 31) (by decide +kernel) (by decide +kernel)
theorem wd_X3_22 : Cond.fieldLink RX3 22 "NearlySaid$Tape" "fault" "I" ∈ mj_T := tb_k (i := 32) (by decide +kernel) (by decide +kernel)
theorem wd_X4_110 : Cond.fieldLink RX4 110 "NearlySaid$Tape" "fault" "I" ∈ mj_T := tb_k (i := 33) (by decide +kernel) (by decide +kernel)
theorem wd_X3_19 : Cond.fieldLink RX3 19 "NearlySaid$Tape" "behind" "I" ∈ mj_T := tb_k (i := 34) (by decide +kernel) (by decide +kernel)
theorem wd_X3_35 : Cond.fieldLink RX3 35 "NearlySaid$Tape" "token" "I" ∈ mj_T := tb_k (i := 35) (by decide +kernel) (by decide +kernel)
theorem wd_X3_70 : Cond.fieldLink RX3 70 "NearlySaid$Tape" "value" "I" ∈ mj_T := tb_k (i := 36) (by decide +kernel) (by decide +kernel)
theorem wd_X3_46 : Cond.fieldLink RX3 46 "NearlySaid$Tape" "taken" "I" ∈ mj_T := tb_k (i := 37) (by decide +kernel) (by decide +kernel)
theorem wd_X4_22 : Cond.classLink RX4 22 "NearlySaid$Street" ∈ mj_T := tb_k (i := 56) (by decide +kernel) (by decide +kernel)
theorem wd_X4_24 : Cond.methodLink RX4 24 yX2_init ∈ mj_T := tb_k (i := 58) (by decide +kernel) (by decide +kernel)
theorem wd_X2_3 : Cond.methodLink RX2 3 objectInit ∈ mj_T := tb_k (i := 61) (by decide +kernel) (by decide +kernel)
theorem wd_X2_9 : Cond.fieldLink RX2 9 "NearlySaid$Street" "kind" "[I" ∈ mj_T := tb_k (i := 62) (by decide +kernel) (by decide +kernel)
theorem wd_X4_259 : Cond.fieldLink RX4 259 "NearlySaid$Street" "kind" "[I" ∈ mj_T := tb_k (i := 63) (by decide +kernel) (by decide +kernel)
theorem wd_X2_15 : Cond.fieldLink RX2 15 "NearlySaid$Street" "talk" "[I" ∈ mj_T := tb_k (i := 64) (by decide +kernel) (by decide +kernel)
theorem wd_X4_155 : Cond.fieldLink RX4 155 "NearlySaid$Street" "talk" "[I" ∈ mj_T := tb_k (i := 65) (by decide +kernel) (by decide +kernel)
theorem wd_X2_18 : Cond.fieldLink RX2 18 "NearlySaid$Street" "keeps" "[I" ∈ mj_T := tb_k (i := 66) (by decide +kernel) (by decide +kernel)
theorem wd_X4_174 : Cond.fieldLink RX4 174 "NearlySaid$Street" "keeps" "[I" ∈ mj_T := tb_k (i := 67) (by decide +kernel) (by decide +kernel)
theorem wd_X2_21 : Cond.fieldLink RX2 21 "NearlySaid$Street" "bars" "[I" ∈ mj_T := tb_k (i := 68) (by decide +kernel) (by decide +kernel)
theorem wd_X4_177 : Cond.fieldLink RX4 177 "NearlySaid$Street" "bars" "[I" ∈ mj_T := tb_k (i := 69) (by decide +kernel) (by decide +kernel)
theorem wd_X2_24 : Cond.fieldLink RX2 24 "NearlySaid$Street" "gutter" "[I" ∈ mj_T := tb_k (i := 70) (by decide +kernel) (by decide +kernel)
theorem wd_X4_180 : Cond.fieldLink RX4 180 "NearlySaid$Street" "gutter" "[I" ∈ mj_T := tb_k (i := 71) (by decide +kernel) (by decide +kernel)
theorem wd_X2_27 : Cond.fieldLink RX2 27 "NearlySaid$Street" "caught" "[I" ∈ mj_T := tb_k (i := 72) (by decide +kernel) (by decide +kernel)
theorem wd_X4_164 : Cond.fieldLink RX4 164 "NearlySaid$Street" "caught" "[I" ∈ mj_T := tb_k (i := 73) (by decide +kernel) (by decide +kernel)
theorem wd_X2_34 : Cond.fieldLink RX2 34 "NearlySaid$Street" "step" "I" ∈ mj_T := tb_k (i := 74) (by decide +kernel) (by decide +kernel)
theorem wd_X2_37 : Cond.fieldLink RX2 37 "NearlySaid$Street" "plank" "I" ∈ mj_T := tb_k (i := 75) (by decide +kernel) (by decide +kernel)
theorem wd_X2_30 : Cond.fieldLink RX2 30 "NearlySaid$Street" "houses" "I" ∈ mj_T := tb_k (i := 76) (by decide +kernel) (by decide +kernel)
theorem wd_X4_127 : Cond.fieldLink RX4 127 "NearlySaid$Street" "houses" "I" ∈ mj_T := tb_k (i := 77) (by decide +kernel) (by decide +kernel)
theorem wd_X2_40 : Cond.fieldLink RX2 40 "NearlySaid$Street" "minute" "I" ∈ mj_T := tb_k (i := 78) (by decide +kernel) (by decide +kernel)
theorem wd_X4_140 : Cond.fieldLink RX4 140 "NearlySaid$Street" "minute" "I" ∈ mj_T := tb_k (i := 79) (by decide +kernel) (by decide +kernel)
theorem wd_X2_43 : Cond.fieldLink RX2 43 "NearlySaid$Street" "pond" "I" ∈ mj_T := tb_k (i := 80) (by decide +kernel) (by decide +kernel)
theorem wd_X4_149 : Cond.fieldLink RX4 149 "NearlySaid$Street" "pond" "I" ∈ mj_T := tb_k (i := 81) (by decide +kernel) (by decide +kernel)
theorem wd_X2_46 : Cond.fieldLink RX2 46 "NearlySaid$Street" "hushed" "I" ∈ mj_T := tb_k (i := 82) (by decide +kernel) (by decide +kernel)
theorem wd_X4_161 : Cond.fieldLink RX4 161 "NearlySaid$Street" "hushed" "I" ∈ mj_T := tb_k (i := 83) (by decide +kernel) (by decide +kernel)
theorem wd_X4_32 : Cond.classLink RX4 32 "NearlySaid$Acts" ∈ mj_T := tb_k (i := 109) (by decide +kernel) (by decide +kernel)
theorem wd_X4_34 : Cond.methodLink RX4 34 yX0_init ∈ mj_T := tb_k (i := 111) (by decide +kernel) (by decide +kernel)
theorem wd_X0_3 : Cond.methodLink RX0 3 objectInit ∈ mj_T := tb_k (i := 114) (by decide +kernel) (by decide +kernel)
theorem wd_X0_9 : Cond.classLink RX0 9 "NearlySaid$Street" ∈ mj_T := tb_k (i := 115) (by decide +kernel) (by decide +kernel)
theorem wd_X0_17 : Cond.methodLink RX0 17 yX2_init ∈ mj_T := tb_k (i := 117) (by decide +kernel) (by decide +kernel)
theorem wd_X0_11 : Cond.fieldLink RX0 11 "NearlySaid$Acts" "before" "[LNearlySaid$Street;" ∈ mj_T := tb_k (i := 118) (by decide +kernel) (by decide +kernel)
theorem wd_X0_18 : Cond.fieldLink RX0 18 "NearlySaid$Acts" "next" "I" ∈ mj_T := tb_k (i := 119) (by decide +kernel) (by decide +kernel)
theorem wd_X0_26 : Cond.fieldLink RX0 26 "NearlySaid$Acts" "kept" "I" ∈ mj_T := tb_k (i := 120) (by decide +kernel) (by decide +kernel)
theorem wd_X4_133 : Cond.fieldLink RX4 133 "NearlySaid$Acts" "kept" "I" ∈ mj_T := tb_k (i := 121) (by decide +kernel) (by decide +kernel)
theorem wd_X4_47 : Cond.methodLink RX4 47 yX1_init ∈ mj_T := tb_k (i := 130) (by decide +kernel) (by decide +kernel)
theorem wd_X1_3 : Cond.methodLink RX1 3 objectInit ∈ mj_T := tb_k (i := 133) (by decide +kernel) (by decide +kernel)
theorem wd_X1_9 : Cond.fieldLink RX1 9 "NearlySaid$Row" "items" "[I" ∈ mj_T := tb_k (i := 134) (by decide +kernel) (by decide +kernel)
theorem wd_X4_87 : Cond.fieldLink RX4 87 "NearlySaid$Row" "items" "[I" ∈ mj_T := tb_k (i := 135) (by decide +kernel) (by decide +kernel)
theorem wd_X1_15 : Cond.fieldLink RX1 15 "NearlySaid$Row" "lane" "I" ∈ mj_T := tb_k (i := 136) (by decide +kernel) (by decide +kernel)
theorem wd_X4_79 : Cond.fieldLink RX4 79 "NearlySaid$Row" "lane" "I" ∈ mj_T := tb_k (i := 137) (by decide +kernel) (by decide +kernel)
theorem wd_X1_19 : Cond.fieldLink RX1 19 "NearlySaid$Row" "size" "I" ∈ mj_T := tb_k (i := 138) (by decide +kernel) (by decide +kernel)
theorem wd_X4_96 : Cond.fieldLink RX4 96 "NearlySaid$Row" "size" "I" ∈ mj_T := tb_k (i := 139) (by decide +kernel) (by decide +kernel)
theorem wd_X4_11 : Cond.fieldLink RX4 11 "NearlySaid" "rows" "[LNearlySaid$Row;" ∈ mj_T := tb_k (i := 147) (by decide +kernel) (by decide +kernel)
theorem wd_X4_18 : Cond.fieldLink RX4 18 "NearlySaid" "tape" "LNearlySaid$Tape;" ∈ mj_T := tb_k (i := 148) (by decide +kernel) (by decide +kernel)
theorem wd_X4_25 : Cond.fieldLink RX4 25 "NearlySaid" "now" "LNearlySaid$Street;" ∈ mj_T := tb_k (i := 149) (by decide +kernel) (by decide +kernel)
theorem wd_X4_29 : Cond.fieldLink RX4 29 "NearlySaid" "foreseen" "LNearlySaid$Street;" ∈ mj_T := tb_k (i := 150) (by decide +kernel) (by decide +kernel)
theorem wd_X4_35 : Cond.fieldLink RX4 35 "NearlySaid" "acts" "LNearlySaid$Acts;" ∈ mj_T := tb_k (i := 151) (by decide +kernel) (by decide +kernel)
theorem wd_X4_39 : Cond.fieldLink RX4 39 "NearlySaid" "images" "[LNearlySaid$Street;" ∈ mj_T := tb_k (i := 152) (by decide +kernel) (by decide +kernel)
theorem wd_X4_43 : Cond.fieldLink RX4 43 "NearlySaid" "trace" "[I" ∈ mj_T := tb_k (i := 153) (by decide +kernel) (by decide +kernel)
theorem wd_X4_265 : Cond.fieldLink RX4 265 "NearlySaid" "traced" "I" ∈ mj_T := tb_k (i := 154) (by decide +kernel) (by decide +kernel)
theorem wd_X4_113 : Cond.fieldLink RX4 113 "NearlySaid" "latestFault" "I" ∈ mj_T := tb_k (i := 155) (by decide +kernel) (by decide +kernel)
theorem wd_X4_275 : Cond.fieldLink RX4 275 "NearlySaid" "latestFinding" "I" ∈ mj_T := tb_k (i := 156) (by decide +kernel) (by decide +kernel)
theorem wd_L_13 : Cond.methodLink RL 13 yX4_row ∈ mj_T := tb_k (i := 178) (by decide +kernel) (by decide +kernel)
theorem wd_X4_48 : Cond.methodLink RX4 48 yX4_isRow ∈ mj_T := tb_k (i := 182) (by decide +kernel) (by decide +kernel)
theorem wd_X4_52 : Cond.methodLink RX4 52 yX4_isWithin ∈ mj_T := tb_k (i := 185) (by decide +kernel) (by decide +kernel)
theorem wd_X4_56 : Cond.constant RX4 56 (-1000001) ∈ mj_T := tb_k (i := 188) (by decide +kernel) (by decide +kernel)
theorem wd_X4_57 : Cond.methodLink RX4 57 yX4_found ∈ mj_T := tb_k (i := 189) (by decide +kernel) (by decide +kernel)
theorem wd_X4_278 : Cond.constant RX4 278 (-1000010) ∈ mj_T := tb_k (i := 193) (by decide +kernel) (by decide +kernel)
theorem wd_X4_61 : Cond.methodLink RX4 61 yX1_begin ∈ mj_T := tb_k (i := 194) (by decide +kernel) (by decide +kernel)
theorem wd_X1_22 : Cond.methodLink RX1 22 yJ7_fill_53178 ∈ mj_T := tb_k (i := 198) (by decide +kernel) (by decide +kernel)
theorem wd_X4_65 : Cond.methodLink RX4 65 yX4_unfound ∈ mj_T := tb_k (i := 201) (by decide +kernel) (by decide +kernel)
theorem wd_L_18 : Cond.methodLink RL 18 yX4_set ∈ mj_T := tb_k (i := 205) (by decide +kernel) (by decide +kernel)
theorem wd_X4_68 : Cond.methodLink RX4 68 yX1_findingOf ∈ mj_T := tb_k (i := 209) (by decide +kernel) (by decide +kernel)
theorem wd_X1_28 : Cond.methodLink RX1 28 yX1_isMissing ∈ mj_T := tb_k (i := 213) (by decide +kernel) (by decide +kernel)
theorem wd_X1_32 : Cond.methodLink RX1 32 yX1_has ∈ mj_T := tb_k (i := 217) (by decide +kernel) (by decide +kernel)
theorem wd_X4_72 : Cond.methodLink RX4 72 yX1_put ∈ mj_T := tb_k (i := 221) (by decide +kernel) (by decide +kernel)
theorem wd_L_22 : Cond.methodLink RL 22 yX4_copy ∈ mj_T := tb_k (i := 225) (by decide +kernel) (by decide +kernel)
theorem wd_X4_75 : Cond.methodLink RX4 75 yX1_isMissing ∈ mj_T := tb_k (i := 229) (by decide +kernel) (by decide +kernel)
theorem wd_X4_83 : Cond.methodLink RX4 83 yX1_has ∈ mj_T := tb_k (i := 230) (by decide +kernel) (by decide +kernel)
theorem wd_X4_90 : Cond.methodLink RX4 90 arraycopyName ∈ mj_T := tb_k (i := 231) (by decide +kernel) (by decide +kernel)
theorem wd_L_27 : Cond.methodLink RL 27 yX4_drop ∈ mj_T := tb_k (i := 234) (by decide +kernel) (by decide +kernel)
theorem wd_L_32 : Cond.methodLink RL 32 yX4_feed ∈ mj_T := tb_k (i := 238) (by decide +kernel) (by decide +kernel)
theorem wd_X4_99 : Cond.methodLink RX4 99 yX3_add ∈ mj_T := tb_k (i := 242) (by decide +kernel) (by decide +kernel)
theorem wd_X4_105 : Cond.constant RX4 105 (-1000003) ∈ mj_T := tb_k (i := 246) (by decide +kernel) (by decide +kernel)
theorem wd_L_36 : Cond.methodLink RL 36 yX4_street ∈ mj_T := tb_k (i := 247) (by decide +kernel) (by decide +kernel)
theorem wd_X4_106 : Cond.methodLink RX4 106 yX3_readStreet ∈ mj_T := tb_k (i := 251) (by decide +kernel) (by decide +kernel)
theorem wd_X3_25 : Cond.methodLink RX3 25 yX3_advance ∈ mj_T := tb_k (i := 255) (by decide +kernel) (by decide +kernel)
theorem wd_X3_80 : Cond.methodLink RX3 80 yX3_isFigure ∈ mj_T := tb_k (i := 259) (by decide +kernel) (by decide +kernel)
theorem wd_X3_83 : Cond.methodLink RX3 83 yX3_readFigures ∈ mj_T := tb_k (i := 262) (by decide +kernel) (by decide +kernel)
theorem wd_X3_28 : Cond.methodLink RX3 28 yX3_readLaw ∈ mj_T := tb_k (i := 266) (by decide +kernel) (by decide +kernel)
theorem wd_X3_38 : Cond.methodLink RX3 38 yX3_takesByte ∈ mj_T := tb_k (i := 270) (by decide +kernel) (by decide +kernel)
theorem wd_X3_59 : Cond.methodLink RX3 59 yX3_fails ∈ mj_T := tb_k (i := 274) (by decide +kernel) (by decide +kernel)
theorem wd_X3_42 : Cond.methodLink RX3 42 yX3_takesNumber ∈ mj_T := tb_k (i := 278) (by decide +kernel) (by decide +kernel)
theorem wd_X3_49 : Cond.methodLink RX3 49 yX2_begin ∈ mj_T := tb_k (i := 283) (by decide +kernel) (by decide +kernel)
theorem wd_X3_32 : Cond.methodLink RX3 32 yX3_readHouse ∈ mj_T := tb_k (i := 287) (by decide +kernel) (by decide +kernel)
theorem wd_X3_55 : Cond.methodLink RX3 55 yX3_kindOfSort ∈ mj_T := tb_k (i := 291) (by decide +kernel) (by decide +kernel)
theorem wd_X3_62 : Cond.methodLink RX3 62 yX2_hasRoom ∈ mj_T := tb_k (i := 294) (by decide +kernel) (by decide +kernel)
theorem wd_X3_66 : Cond.methodLink RX3 66 yX2_build ∈ mj_T := tb_k (i := 298) (by decide +kernel) (by decide +kernel)
theorem wd_X2_55 : Cond.methodLink RX2 55 yX2_hasRoom ∈ mj_T := tb_k (i := 302) (by decide +kernel) (by decide +kernel)
theorem wd_X2_59 : Cond.methodLink RX2 59 yX2_putBars ∈ mj_T := tb_k (i := 303) (by decide +kernel) (by decide +kernel)
theorem wd_X4_116 : Cond.constant RX4 116 (-1000100) ∈ mj_T := tb_k (i := 307) (by decide +kernel) (by decide +kernel)
theorem wd_X4_120 : Cond.methodLink RX4 120 yX2_takeFrom ∈ mj_T := tb_k (i := 308) (by decide +kernel) (by decide +kernel)
theorem wd_X2_49 : Cond.methodLink RX2 49 arraycopyName ∈ mj_T := tb_k (i := 312) (by decide +kernel) (by decide +kernel)
theorem wd_X4_124 : Cond.methodLink RX4 124 yX0_forgetAll ∈ mj_T := tb_k (i := 313) (by decide +kernel) (by decide +kernel)
theorem wd_L_41 : Cond.methodLink RL 41 yX4_fault ∈ mj_T := tb_k (i := 317) (by decide +kernel) (by decide +kernel)
theorem wd_L_45 : Cond.methodLink RL 45 yX4_undo ∈ mj_T := tb_k (i := 321) (by decide +kernel) (by decide +kernel)
theorem wd_X4_130 : Cond.methodLink RX4 130 yX0_undoLatest ∈ mj_T := tb_k (i := 325) (by decide +kernel) (by decide +kernel)
theorem wd_X0_22 : Cond.methodLink RX0 22 yX2_takeFrom ∈ mj_T := tb_k (i := 329) (by decide +kernel) (by decide +kernel)
theorem wd_X4_136 : Cond.constant RX4 136 (-1000002) ∈ mj_T := tb_k (i := 330) (by decide +kernel) (by decide +kernel)
theorem wd_L_49 : Cond.methodLink RL 49 yX4_minutes ∈ mj_T := tb_k (i := 331) (by decide +kernel) (by decide +kernel)
theorem wd_X4_137 : Cond.methodLink RX4 137 yX2_stands ∈ mj_T := tb_k (i := 335) (by decide +kernel) (by decide +kernel)
theorem wd_X4_143 : Cond.methodLink RX4 143 yX0_keep ∈ mj_T := tb_k (i := 339) (by decide +kernel) (by decide +kernel)
theorem wd_X0_29 : Cond.methodLink RX0 29 yJ9_min_7cf53 ∈ mj_T := tb_k (i := 343) (by decide +kernel) (by decide +kernel)
theorem wd_X4_146 : Cond.methodLink RX4 146 yX2_passMinute ∈ mj_T := tb_k (i := 346) (by decide +kernel) (by decide +kernel)
theorem wd_X2_84 : Cond.methodLink RX2 84 yX2_flowOf ∈ mj_T := tb_k (i := 350) (by decide +kernel) (by decide +kernel)
theorem wd_X2_88 : Cond.methodLink RX2 88 yJ9_min_7cf53 ∈ mj_T := tb_k (i := 354) (by decide +kernel) (by decide +kernel)
theorem wd_X2_91 : Cond.methodLink RX2 91 yX2_behindBars ∈ mj_T := tb_k (i := 355) (by decide +kernel) (by decide +kernel)
theorem wd_X2_94 : Cond.methodLink RX2 94 yX2_shedsOf ∈ mj_T := tb_k (i := 359) (by decide +kernel) (by decide +kernel)
theorem wd_X2_73 : Cond.methodLink RX2 73 yX2_isHushed ∈ mj_T := tb_k (i := 363) (by decide +kernel) (by decide +kernel)
theorem wd_L_53 : Cond.methodLink RL 53 yX4_talk ∈ mj_T := tb_k (i := 370) (by decide +kernel) (by decide +kernel)
theorem wd_X4_152 : Cond.methodLink RX4 152 yX4_isHouse ∈ mj_T := tb_k (i := 374) (by decide +kernel) (by decide +kernel)
theorem wd_L_58 : Cond.methodLink RL 58 yX4_hush ∈ mj_T := tb_k (i := 378) (by decide +kernel) (by decide +kernel)
theorem wd_X4_158 : Cond.methodLink RX4 158 yX2_isHushed ∈ mj_T := tb_k (i := 382) (by decide +kernel) (by decide +kernel)
theorem wd_L_62 : Cond.methodLink RL 62 yX4_bars ∈ mj_T := tb_k (i := 383) (by decide +kernel) (by decide +kernel)
theorem wd_X4_167 : Cond.methodLink RX4 167 yX2_putBars ∈ mj_T := tb_k (i := 387) (by decide +kernel) (by decide +kernel)
theorem wd_L_66 : Cond.methodLink RL 66 yX4_letDown ∈ mj_T := tb_k (i := 388) (by decide +kernel) (by decide +kernel)
theorem wd_X4_170 : Cond.methodLink RX4 170 yX2_lowerPond ∈ mj_T := tb_k (i := 392) (by decide +kernel) (by decide +kernel)
theorem wd_X2_63 : Cond.methodLink RX2 63 yJ9_max_7cf53 ∈ mj_T := tb_k (i := 396) (by decide +kernel) (by decide +kernel)
theorem wd_L_70 : Cond.methodLink RL 70 yX4_house ∈ mj_T := tb_k (i := 399) (by decide +kernel) (by decide +kernel)
theorem wd_X4_183 : Cond.methodLink RX4 183 yX2_shedsOf ∈ mj_T := tb_k (i := 403) (by decide +kernel) (by decide +kernel)
theorem wd_L_74 : Cond.methodLink RL 74 yX4_stand ∈ mj_T := tb_k (i := 404) (by decide +kernel) (by decide +kernel)
theorem wd_X4_186 : Cond.methodLink RX4 186 yX2_isOverPlank ∈ mj_T := tb_k (i := 408) (by decide +kernel) (by decide +kernel)
theorem wd_X4_189 : Cond.methodLink RX4 189 yX2_caughtInAll ∈ mj_T := tb_k (i := 412) (by decide +kernel) (by decide +kernel)
theorem wd_X4_193 : Cond.methodLink RX4 193 yX2_inAllGutters ∈ mj_T := tb_k (i := 416) (by decide +kernel) (by decide +kernel)
theorem wd_L_78 : Cond.methodLink RL 78 yX4_ahead ∈ mj_T := tb_k (i := 420) (by decide +kernel) (by decide +kernel)
theorem wd_X4_196 : Cond.methodLink RX4 196 yX2_passMinutes ∈ mj_T := tb_k (i := 424) (by decide +kernel) (by decide +kernel)
theorem wd_X2_81 : Cond.methodLink RX2 81 yX2_passMinute ∈ mj_T := tb_k (i := 428) (by decide +kernel) (by decide +kernel)
theorem wd_L_82 : Cond.methodLink RL 82 yX4_pond ∈ mj_T := tb_k (i := 429) (by decide +kernel) (by decide +kernel)
theorem wd_L_86 : Cond.methodLink RL 86 yX4_over ∈ mj_T := tb_k (i := 433) (by decide +kernel) (by decide +kernel)
theorem wd_X4_199 : Cond.constant RX4 199 (-1000000) ∈ mj_T := tb_k (i := 437) (by decide +kernel) (by decide +kernel)
theorem wd_L_90 : Cond.methodLink RL 90 yX4_full ∈ mj_T := tb_k (i := 438) (by decide +kernel) (by decide +kernel)
theorem wd_X4_200 : Cond.methodLink RX4 200 yX2_firstFullBars ∈ mj_T := tb_k (i := 442) (by decide +kernel) (by decide +kernel)
theorem wd_X2_100 : Cond.constant RX2 100 (-1000000) ∈ mj_T := tb_k (i := 446) (by decide +kernel) (by decide +kernel)
theorem wd_L_94 : Cond.methodLink RL 94 yX4_most ∈ mj_T := tb_k (i := 447) (by decide +kernel) (by decide +kernel)
theorem wd_L_98 : Cond.methodLink RL 98 yX4_hushes ∈ mj_T := tb_k (i := 451) (by decide +kernel) (by decide +kernel)
theorem wd_X4_203 : Cond.methodLink RX4 203 yX4_fewestToHush ∈ mj_T := tb_k (i := 455) (by decide +kernel) (by decide +kernel)
theorem wd_X4_233 : Cond.methodLink RX4 233 yJ6_bitCount_0f7a4 ∈ mj_T := tb_k (i := 459) (by decide +kernel) (by decide +kernel)
theorem wd_J6_265 : Cond.constant RJ6 265 (1431655765) ∈ mj_T := tb_k (i := 462) (by decide +kernel) (by decide +kernel)
theorem wd_J6_266 : Cond.constant RJ6 266 (858993459) ∈ mj_T := tb_k (i := 463) (by decide +kernel) (by decide +kernel)
theorem wd_J6_267 : Cond.constant RJ6 267 (252645135) ∈ mj_T := tb_k (i := 464) (by decide +kernel) (by decide +kernel)
theorem wd_X4_209 : Cond.methodLink RX4 209 yX4_foreseeHushed ∈ mj_T := tb_k (i := 465) (by decide +kernel) (by decide +kernel)
theorem wd_X4_279 : Cond.methodLink RX4 279 yX2_isClearAt ∈ mj_T := tb_k (i := 469) (by decide +kernel) (by decide +kernel)
theorem wd_X2_97 : Cond.methodLink RX2 97 yX2_isOverPlank ∈ mj_T := tb_k (i := 473) (by decide +kernel) (by decide +kernel)
theorem wd_X4_206 : Cond.methodLink RX4 206 yX4_howManyOrWhich ∈ mj_T := tb_k (i := 474) (by decide +kernel) (by decide +kernel)
theorem wd_L_102 : Cond.methodLink RL 102 yX4_spares ∈ mj_T := tb_k (i := 477) (by decide +kernel) (by decide +kernel)
theorem wd_L_106 : Cond.methodLink RL 106 yX4_catches ∈ mj_T := tb_k (i := 481) (by decide +kernel) (by decide +kernel)
theorem wd_L_110 : Cond.methodLink RL 110 yX4_from ∈ mj_T := tb_k (i := 485) (by decide +kernel) (by decide +kernel)
theorem wd_L_114 : Cond.methodLink RL 114 yX4_loud ∈ mj_T := tb_k (i := 489) (by decide +kernel) (by decide +kernel)
theorem wd_L_118 : Cond.methodLink RL 118 yX4_dry ∈ mj_T := tb_k (i := 493) (by decide +kernel) (by decide +kernel)
theorem wd_X4_212 : Cond.methodLink RX4 212 yX2_dryGutters ∈ mj_T := tb_k (i := 497) (by decide +kernel) (by decide +kernel)
theorem wd_L_122 : Cond.methodLink RL 122 yX4_lag ∈ mj_T := tb_k (i := 501) (by decide +kernel) (by decide +kernel)
theorem wd_L_126 : Cond.methodLink RL 126 yX4_who ∈ mj_T := tb_k (i := 505) (by decide +kernel) (by decide +kernel)
theorem wd_X4_215 : Cond.methodLink RX4 215 yX4_allThatFit ∈ mj_T := tb_k (i := 509) (by decide +kernel) (by decide +kernel)
theorem wd_X4_282 : Cond.methodLink RX4 282 yX4_isAsTold ∈ mj_T := tb_k (i := 513) (by decide +kernel) (by decide +kernel)
theorem wd_L_131 : Cond.methodLink RL 131 yX4_silent ∈ mj_T := tb_k (i := 517) (by decide +kernel) (by decide +kernel)
theorem wd_X4_219 : Cond.methodLink RX4 219 yX4_silentOnesThatFit ∈ mj_T := tb_k (i := 521) (by decide +kernel) (by decide +kernel)
theorem wd_L_136 : Cond.methodLink RL 136 yX4_hushed ∈ mj_T := tb_k (i := 525) (by decide +kernel) (by decide +kernel)
theorem wd_X4_223 : Cond.constantLong RX4 223 (-1000002) ∈ mj_T := tb_k (i := 529) (by decide +kernel) (by decide +kernel)
theorem wd_X4_225 : Cond.constantLong RX4 225 (-1000001) ∈ mj_T := tb_k (i := 530) (by decide +kernel) (by decide +kernel)
theorem wd_X4_227 : Cond.methodLink RX4 227 yX4_casesOverPlank ∈ mj_T := tb_k (i := 531) (by decide +kernel) (by decide +kernel)
theorem wd_X4_238 : Cond.methodLink RX4 238 yX4_power ∈ mj_T := tb_k (i := 535) (by decide +kernel) (by decide +kernel)
theorem wd_X4_231 : Cond.constantLong RX4 231 (10) ∈ mj_T := tb_k (i := 538) (by decide +kernel) (by decide +kernel)
theorem wd_X4_242 : Cond.methodLink RX4 242 yX4_commonDivisor ∈ mj_T := tb_k (i := 539) (by decide +kernel) (by decide +kernel)
theorem wd_L_141 : Cond.methodLink RL 141 yX4_drawn ∈ mj_T := tb_k (i := 542) (by decide +kernel) (by decide +kernel)
theorem wd_X4_246 : Cond.constant RX4 246 (999999) ∈ mj_T := tb_k (i := 546) (by decide +kernel) (by decide +kernel)
theorem wd_X4_247 : Cond.constantLong RX4 247 (16807) ∈ mj_T := tb_k (i := 547) (by decide +kernel) (by decide +kernel)
theorem wd_X4_249 : Cond.constantLong RX4 249 (2147483647) ∈ mj_T := tb_k (i := 548) (by decide +kernel) (by decide +kernel)
theorem wd_X4_251 : Cond.methodLink RX4 251 yX2_takeDraw ∈ mj_T := tb_k (i := 549) (by decide +kernel) (by decide +kernel)
theorem wd_X2_69 : Cond.methodLink RX2 69 yX2_lowerPond ∈ mj_T := tb_k (i := 553) (by decide +kernel) (by decide +kernel)
theorem wd_X4_254 : Cond.methodLink RX4 254 yJ9_max_7cf53 ∈ mj_T := tb_k (i := 554) (by decide +kernel) (by decide +kernel)
theorem wd_L_145 : Cond.methodLink RL 145 yX4_image ∈ mj_T := tb_k (i := 555) (by decide +kernel) (by decide +kernel)
theorem wd_L_149 : Cond.methodLink RL 149 yX4_restore ∈ mj_T := tb_k (i := 559) (by decide +kernel) (by decide +kernel)
theorem wd_L_153 : Cond.methodLink RL 153 yX4_kind ∈ mj_T := tb_k (i := 563) (by decide +kernel) (by decide +kernel)
theorem wd_L_157 : Cond.methodLink RL 157 yX4_as ∈ mj_T := tb_k (i := 567) (by decide +kernel) (by decide +kernel)
theorem wd_X4_262 : Cond.methodLink RX4 262 yX4_isSuch ∈ mj_T := tb_k (i := 571) (by decide +kernel) (by decide +kernel)
theorem wd_X4_286 : Cond.fieldLink RX4 286 "NearlySaid" "PARENTS" "[I" ∈ mj_T := tb_k (i := 574) (by decide +kernel) (by decide +kernel)
theorem wd_L_161 : Cond.methodLink RL 161 yX4_ask ∈ mj_T := tb_k (i := 576) (by decide +kernel) (by decide +kernel)
theorem wd_X4_268 : Cond.methodLink RX4 268 yX4_answerOf ∈ mj_T := tb_k (i := 580) (by decide +kernel) (by decide +kernel)
theorem wd_X4_295 : Cond.methodLink RX4 295 yX4_bodyFor ∈ mj_T := tb_k (i := 584) (by decide +kernel) (by decide +kernel)
theorem wd_X4_289 : Cond.fieldLink RX4 289 "NearlySaid" "SIZE_BODIES" "[I" ∈ mj_T := tb_k (i := 587) (by decide +kernel) (by decide +kernel)
theorem wd_X4_292 : Cond.fieldLink RX4 292 "NearlySaid" "MARK_BODIES" "[I" ∈ mj_T := tb_k (i := 589) (by decide +kernel) (by decide +kernel)
theorem wd_X4_298 : Cond.methodLink RX4 298 yX4_given ∈ mj_T := tb_k (i := 591) (by decide +kernel) (by decide +kernel)
theorem wd_X4_301 : Cond.methodLink RX4 301 yX4_leaveTrace ∈ mj_T := tb_k (i := 595) (by decide +kernel) (by decide +kernel)
theorem wd_L_165 : Cond.methodLink RL 165 yX4_trace ∈ mj_T := tb_k (i := 599) (by decide +kernel) (by decide +kernel)
theorem wd_L_169 : Cond.methodLink RL 169 yX4_count ∈ mj_T := tb_k (i := 603) (by decide +kernel) (by decide +kernel)
theorem wd_X4_272 : Cond.methodLink RX4 272 yX4_rowsThere ∈ mj_T := tb_k (i := 607) (by decide +kernel) (by decide +kernel)
theorem wd_L_173 : Cond.methodLink RL 173 yX4_status ∈ mj_T := tb_k (i := 611) (by decide +kernel) (by decide +kernel)
theorem wd_L_10 : Cond.classLink RL 10 "NearlySaidModel" ∈ mj_T := tb_k (i := 615) (by decide +kernel) (by decide +kernel)
theorem wd_L_12 : Cond.methodLink RL 12 yX5_init ∈ mj_T := tb_k (i := 617) (by decide +kernel) (by decide +kernel)
theorem wd_X5_1 : Cond.methodLink RX5 1 objectInit ∈ mj_T := tb_k (i := 620) (by decide +kernel) (by decide +kernel)
theorem wd_X5_7 : Cond.fieldLink RX5 7 "NearlySaidModel" "lanes" "[I" ∈ mj_T := tb_k (i := 621) (by decide +kernel) (by decide +kernel)
theorem wd_X5_13 : Cond.fieldLink RX5 13 "NearlySaidModel" "sizes" "[I" ∈ mj_T := tb_k (i := 622) (by decide +kernel) (by decide +kernel)
theorem wd_X5_16 : Cond.fieldLink RX5 16 "NearlySaidModel" "items" "[I" ∈ mj_T := tb_k (i := 623) (by decide +kernel) (by decide +kernel)
theorem wd_X5_47 : Cond.fieldLink RX5 47 "NearlySaidModel" "status" "I" ∈ mj_T := tb_k (i := 624) (by decide +kernel) (by decide +kernel)
theorem wd_X5_132 : Cond.fieldLink RX5 132 "NearlySaidModel" "isThere" "Z" ∈ mj_T := tb_k (i := 625) (by decide +kernel) (by decide +kernel)
theorem wd_X5_19 : Cond.fieldLink RX5 19 "NearlySaidModel" "st" "[I" ∈ mj_T := tb_k (i := 626) (by decide +kernel) (by decide +kernel)
theorem wd_X5_22 : Cond.fieldLink RX5 22 "NearlySaidModel" "moved" "[I" ∈ mj_T := tb_k (i := 627) (by decide +kernel) (by decide +kernel)
theorem wd_X5_25 : Cond.fieldLink RX5 25 "NearlySaidModel" "tape" "[I" ∈ mj_T := tb_k (i := 628) (by decide +kernel) (by decide +kernel)
theorem wd_X5_78 : Cond.fieldLink RX5 78 "NearlySaidModel" "bytes" "I" ∈ mj_T := tb_k (i := 629) (by decide +kernel) (by decide +kernel)
theorem wd_X5_128 : Cond.fieldLink RX5 128 "NearlySaidModel" "latest" "I" ∈ mj_T := tb_k (i := 630) (by decide +kernel) (by decide +kernel)
theorem wd_X5_82 : Cond.fieldLink RX5 82 "NearlySaidModel" "place" "I" ∈ mj_T := tb_k (i := 631) (by decide +kernel) (by decide +kernel)
theorem wd_X5_88 : Cond.fieldLink RX5 88 "NearlySaidModel" "token" "I" ∈ mj_T := tb_k (i := 632) (by decide +kernel) (by decide +kernel)
theorem wd_X5_91 : Cond.fieldLink RX5 91 "NearlySaidModel" "value" "I" ∈ mj_T := tb_k (i := 633) (by decide +kernel) (by decide +kernel)
theorem wd_X5_85 : Cond.fieldLink RX5 85 "NearlySaidModel" "begins" "I" ∈ mj_T := tb_k (i := 634) (by decide +kernel) (by decide +kernel)
theorem wd_X5_102 : Cond.fieldLink RX5 102 "NearlySaidModel" "wrong" "I" ∈ mj_T := tb_k (i := 635) (by decide +kernel) (by decide +kernel)
theorem wd_X5_28 : Cond.fieldLink RX5 28 "NearlySaidModel" "read" "[I" ∈ mj_T := tb_k (i := 636) (by decide +kernel) (by decide +kernel)
theorem wd_X5_31 : Cond.fieldLink RX5 31 "NearlySaidModel" "acts" "[I" ∈ mj_T := tb_k (i := 637) (by decide +kernel) (by decide +kernel)
theorem wd_X5_136 : Cond.fieldLink RX5 136 "NearlySaidModel" "actMany" "I" ∈ mj_T := tb_k (i := 638) (by decide +kernel) (by decide +kernel)
theorem wd_X5_34 : Cond.fieldLink RX5 34 "NearlySaidModel" "aside" "[I" ∈ mj_T := tb_k (i := 639) (by decide +kernel) (by decide +kernel)
theorem wd_X5_37 : Cond.fieldLink RX5 37 "NearlySaidModel" "isKept" "[Z" ∈ mj_T := tb_k (i := 640) (by decide +kernel) (by decide +kernel)
theorem wd_X5_41 : Cond.fieldLink RX5 41 "NearlySaidModel" "kept" "[I" ∈ mj_T := tb_k (i := 641) (by decide +kernel) (by decide +kernel)
theorem wd_X5_44 : Cond.fieldLink RX5 44 "NearlySaidModel" "trace" "[I" ∈ mj_T := tb_k (i := 642) (by decide +kernel) (by decide +kernel)
theorem wd_X5_234 : Cond.fieldLink RX5 234 "NearlySaidModel" "traced" "I" ∈ mj_T := tb_k (i := 643) (by decide +kernel) (by decide +kernel)
theorem wd_L_17 : Cond.methodLink RL 17 yX5_row ∈ mj_T := tb_k (i := 692) (by decide +kernel) (by decide +kernel)
theorem wd_X5_58 : Cond.methodLink RX5 58 yX5_isRow ∈ mj_T := tb_k (i := 696) (by decide +kernel) (by decide +kernel)
theorem wd_X5_52 : Cond.constantLong RX5 52 (7) ∈ mj_T := tb_k (i := 699) (by decide +kernel) (by decide +kernel)
theorem wd_X5_54 : Cond.methodLink RX5 54 yX5_in ∈ mj_T := tb_k (i := 700) (by decide +kernel) (by decide +kernel)
theorem wd_X5_62 : Cond.constantLong RX5 62 (2) ∈ mj_T := tb_k (i := 703) (by decide +kernel) (by decide +kernel)
theorem wd_X5_64 : Cond.constant RX5 64 (-1000001) ∈ mj_T := tb_k (i := 704) (by decide +kernel) (by decide +kernel)
theorem wd_X5_65 : Cond.methodLink RX5 65 yX5_find ∈ mj_T := tb_k (i := 705) (by decide +kernel) (by decide +kernel)
theorem wd_X5_51 : Cond.constant RX5 51 (-1000010) ∈ mj_T := tb_k (i := 709) (by decide +kernel) (by decide +kernel)
theorem wd_X5_69 : Cond.methodLink RX5 69 yX5_well ∈ mj_T := tb_k (i := 710) (by decide +kernel) (by decide +kernel)
theorem wd_L_21 : Cond.methodLink RL 21 yX5_set ∈ mj_T := tb_k (i := 714) (by decide +kernel) (by decide +kernel)
theorem wd_X5_72 : Cond.methodLink RX5 72 yX5_asLane ∈ mj_T := tb_k (i := 718) (by decide +kernel) (by decide +kernel)
theorem wd_L_26 : Cond.methodLink RL 26 yX5_copy ∈ mj_T := tb_k (i := 721) (by decide +kernel) (by decide +kernel)
theorem wd_L_31 : Cond.methodLink RL 31 yX5_drop ∈ mj_T := tb_k (i := 725) (by decide +kernel) (by decide +kernel)
theorem wd_L_35 : Cond.methodLink RL 35 yX5_feed ∈ mj_T := tb_k (i := 729) (by decide +kernel) (by decide +kernel)
theorem wd_X5_76 : Cond.constantLong RX5 76 (255) ∈ mj_T := tb_k (i := 733) (by decide +kernel) (by decide +kernel)
theorem wd_X5_81 : Cond.constant RX5 81 (-1000003) ∈ mj_T := tb_k (i := 734) (by decide +kernel) (by decide +kernel)
theorem wd_L_40 : Cond.methodLink RL 40 yX5_street ∈ mj_T := tb_k (i := 735) (by decide +kernel) (by decide +kernel)
theorem wd_X5_125 : Cond.methodLink RX5 125 yX5_readStreet ∈ mj_T := tb_k (i := 739) (by decide +kernel) (by decide +kernel)
theorem wd_X5_111 : Cond.methodLink RX5 111 yX5_nextToken ∈ mj_T := tb_k (i := 743) (by decide +kernel) (by decide +kernel)
theorem wd_X5_94 : Cond.constantLong RX5 94 (48) ∈ mj_T := tb_k (i := 747) (by decide +kernel) (by decide +kernel)
theorem wd_X5_96 : Cond.constantLong RX5 96 (57) ∈ mj_T := tb_k (i := 748) (by decide +kernel) (by decide +kernel)
theorem wd_X5_98 : Cond.constantLong RX5 98 (97) ∈ mj_T := tb_k (i := 749) (by decide +kernel) (by decide +kernel)
theorem wd_X5_100 : Cond.constantLong RX5 100 (122) ∈ mj_T := tb_k (i := 750) (by decide +kernel) (by decide +kernel)
theorem wd_X5_114 : Cond.methodLink RX5 114 yX5_takes ∈ mj_T := tb_k (i := 751) (by decide +kernel) (by decide +kernel)
theorem wd_X5_105 : Cond.methodLink RX5 105 yX5_isLetter ∈ mj_T := tb_k (i := 755) (by decide +kernel) (by decide +kernel)
theorem wd_X5_108 : Cond.methodLink RX5 108 yX5_faults ∈ mj_T := tb_k (i := 759) (by decide +kernel) (by decide +kernel)
theorem wd_X5_117 : Cond.methodLink RX5 117 yX5_takesNumber ∈ mj_T := tb_k (i := 763) (by decide +kernel) (by decide +kernel)
theorem wd_X5_121 : Cond.methodLink RX5 121 yX5_readHouse ∈ mj_T := tb_k (i := 767) (by decide +kernel) (by decide +kernel)
theorem wd_X5_131 : Cond.constant RX5 131 (-1000100) ∈ mj_T := tb_k (i := 771) (by decide +kernel) (by decide +kernel)
theorem wd_L_44 : Cond.methodLink RL 44 yX5_fault ∈ mj_T := tb_k (i := 772) (by decide +kernel) (by decide +kernel)
theorem wd_L_48 : Cond.methodLink RL 48 yX5_undo ∈ mj_T := tb_k (i := 776) (by decide +kernel) (by decide +kernel)
theorem wd_X5_146 : Cond.constant RX5 146 (-1000002) ∈ mj_T := tb_k (i := 780) (by decide +kernel) (by decide +kernel)
theorem wd_L_52 : Cond.methodLink RL 52 yX5_minutes ∈ mj_T := tb_k (i := 781) (by decide +kernel) (by decide +kernel)
theorem wd_X5_147 : Cond.constantLong RX5 147 (24) ∈ mj_T := tb_k (i := 785) (by decide +kernel) (by decide +kernel)
theorem wd_X5_149 : Cond.methodLink RX5 149 yX5_note ∈ mj_T := tb_k (i := 786) (by decide +kernel) (by decide +kernel)
theorem wd_X5_152 : Cond.methodLink RX5 152 yX5_oneMinute ∈ mj_T := tb_k (i := 790) (by decide +kernel) (by decide +kernel)
theorem wd_X5_143 : Cond.methodLink RX5 143 yX5_shedsOf ∈ mj_T := tb_k (i := 794) (by decide +kernel) (by decide +kernel)
theorem wd_X5_139 : Cond.methodLink RX5 139 yX5_has ∈ mj_T := tb_k (i := 798) (by decide +kernel) (by decide +kernel)
theorem wd_L_57 : Cond.methodLink RL 57 yX5_talk ∈ mj_T := tb_k (i := 801) (by decide +kernel) (by decide +kernel)
theorem wd_X5_155 : Cond.methodLink RX5 155 yX5_isHouse ∈ mj_T := tb_k (i := 805) (by decide +kernel) (by decide +kernel)
theorem wd_X5_158 : Cond.constantLong RX5 158 (20) ∈ mj_T := tb_k (i := 809) (by decide +kernel) (by decide +kernel)
theorem wd_L_61 : Cond.methodLink RL 61 yX5_hush ∈ mj_T := tb_k (i := 810) (by decide +kernel) (by decide +kernel)
theorem wd_L_65 : Cond.methodLink RL 65 yX5_bars ∈ mj_T := tb_k (i := 814) (by decide +kernel) (by decide +kernel)
theorem wd_X5_160 : Cond.constantLong RX5 160 (9) ∈ mj_T := tb_k (i := 818) (by decide +kernel) (by decide +kernel)
theorem wd_L_69 : Cond.methodLink RL 69 yX5_letDown ∈ mj_T := tb_k (i := 819) (by decide +kernel) (by decide +kernel)
theorem wd_X5_162 : Cond.constantLong RX5 162 (99) ∈ mj_T := tb_k (i := 823) (by decide +kernel) (by decide +kernel)
theorem wd_X5_164 : Cond.methodLink RX5 164 yX5_letOff ∈ mj_T := tb_k (i := 824) (by decide +kernel) (by decide +kernel)
theorem wd_L_73 : Cond.methodLink RL 73 yX5_house ∈ mj_T := tb_k (i := 828) (by decide +kernel) (by decide +kernel)
theorem wd_L_77 : Cond.methodLink RL 77 yX5_stand ∈ mj_T := tb_k (i := 832) (by decide +kernel) (by decide +kernel)
theorem wd_X5_168 : Cond.methodLink RX5 168 yX5_isOver ∈ mj_T := tb_k (i := 836) (by decide +kernel) (by decide +kernel)
theorem wd_X5_171 : Cond.methodLink RX5 171 yX5_sumOf ∈ mj_T := tb_k (i := 840) (by decide +kernel) (by decide +kernel)
theorem wd_L_81 : Cond.methodLink RL 81 yX5_ahead ∈ mj_T := tb_k (i := 844) (by decide +kernel) (by decide +kernel)
theorem wd_X5_174 : Cond.methodLink RX5 174 yX5_putAside ∈ mj_T := tb_k (i := 848) (by decide +kernel) (by decide +kernel)
theorem wd_X5_177 : Cond.methodLink RX5 177 yX5_goOn ∈ mj_T := tb_k (i := 852) (by decide +kernel) (by decide +kernel)
theorem wd_X5_180 : Cond.methodLink RX5 180 yX5_takeBack ∈ mj_T := tb_k (i := 856) (by decide +kernel) (by decide +kernel)
theorem wd_L_85 : Cond.methodLink RL 85 yX5_pond ∈ mj_T := tb_k (i := 860) (by decide +kernel) (by decide +kernel)
theorem wd_X5_183 : Cond.methodLink RX5 183 yX5_isWhat ∈ mj_T := tb_k (i := 864) (by decide +kernel) (by decide +kernel)
theorem wd_L_89 : Cond.methodLink RL 89 yX5_over ∈ mj_T := tb_k (i := 867) (by decide +kernel) (by decide +kernel)
theorem wd_X5_186 : Cond.constant RX5 186 (-1000000) ∈ mj_T := tb_k (i := 871) (by decide +kernel) (by decide +kernel)
theorem wd_L_93 : Cond.methodLink RL 93 yX5_full ∈ mj_T := tb_k (i := 872) (by decide +kernel) (by decide +kernel)
theorem wd_X5_187 : Cond.methodLink RX5 187 yX5_fullNow ∈ mj_T := tb_k (i := 876) (by decide +kernel) (by decide +kernel)
theorem wd_L_97 : Cond.methodLink RL 97 yX5_most ∈ mj_T := tb_k (i := 880) (by decide +kernel) (by decide +kernel)
theorem wd_L_101 : Cond.methodLink RL 101 yX5_hushes ∈ mj_T := tb_k (i := 884) (by decide +kernel) (by decide +kernel)
theorem wd_X5_194 : Cond.constantLong RX5 194 (40) ∈ mj_T := tb_k (i := 888) (by decide +kernel) (by decide +kernel)
theorem wd_X5_196 : Cond.methodLink RX5 196 yX5_quietBy ∈ mj_T := tb_k (i := 889) (by decide +kernel) (by decide +kernel)
theorem wd_X5_191 : Cond.methodLink RX5 191 yX5_ones ∈ mj_T := tb_k (i := 893) (by decide +kernel) (by decide +kernel)
theorem wd_L_105 : Cond.methodLink RL 105 yX5_spares ∈ mj_T := tb_k (i := 896) (by decide +kernel) (by decide +kernel)
theorem wd_L_109 : Cond.methodLink RL 109 yX5_catches ∈ mj_T := tb_k (i := 900) (by decide +kernel) (by decide +kernel)
theorem wd_X5_199 : Cond.constant RX5 199 (99999) ∈ mj_T := tb_k (i := 904) (by decide +kernel) (by decide +kernel)
theorem wd_X5_200 : Cond.methodLink RX5 200 yX5_pondBy ∈ mj_T := tb_k (i := 905) (by decide +kernel) (by decide +kernel)
theorem wd_L_113 : Cond.methodLink RL 113 yX5_from ∈ mj_T := tb_k (i := 909) (by decide +kernel) (by decide +kernel)
theorem wd_L_117 : Cond.methodLink RL 117 yX5_loud ∈ mj_T := tb_k (i := 913) (by decide +kernel) (by decide +kernel)
theorem wd_L_121 : Cond.methodLink RL 121 yX5_dry ∈ mj_T := tb_k (i := 917) (by decide +kernel) (by decide +kernel)
theorem wd_L_125 : Cond.methodLink RL 125 yX5_lag ∈ mj_T := tb_k (i := 921) (by decide +kernel) (by decide +kernel)
theorem wd_L_130 : Cond.methodLink RL 130 yX5_who ∈ mj_T := tb_k (i := 925) (by decide +kernel) (by decide +kernel)
theorem wd_X5_205 : Cond.methodLink RX5 205 yX5_lacks ∈ mj_T := tb_k (i := 929) (by decide +kernel) (by decide +kernel)
theorem wd_X5_203 : Cond.constantLong RX5 203 (12) ∈ mj_T := tb_k (i := 933) (by decide +kernel) (by decide +kernel)
theorem wd_X5_209 : Cond.methodLink RX5 209 yX5_isSo ∈ mj_T := tb_k (i := 934) (by decide +kernel) (by decide +kernel)
theorem wd_L_135 : Cond.methodLink RL 135 yX5_silent ∈ mj_T := tb_k (i := 938) (by decide +kernel) (by decide +kernel)
theorem wd_L_140 : Cond.methodLink RL 140 yX5_hushed ∈ mj_T := tb_k (i := 942) (by decide +kernel) (by decide +kernel)
theorem wd_X5_213 : Cond.constantLong RX5 213 (-1000002) ∈ mj_T := tb_k (i := 946) (by decide +kernel) (by decide +kernel)
theorem wd_X5_215 : Cond.constantLong RX5 215 (10) ∈ mj_T := tb_k (i := 947) (by decide +kernel) (by decide +kernel)
theorem wd_X5_217 : Cond.constantLong RX5 217 (-1000001) ∈ mj_T := tb_k (i := 948) (by decide +kernel) (by decide +kernel)
theorem wd_L_144 : Cond.methodLink RL 144 yX5_drawn ∈ mj_T := tb_k (i := 949) (by decide +kernel) (by decide +kernel)
theorem wd_X5_219 : Cond.constantLong RX5 219 (60) ∈ mj_T := tb_k (i := 953) (by decide +kernel) (by decide +kernel)
theorem wd_X5_221 : Cond.constantLong RX5 221 (999999) ∈ mj_T := tb_k (i := 954) (by decide +kernel) (by decide +kernel)
theorem wd_X5_223 : Cond.constantLong RX5 223 (16807) ∈ mj_T := tb_k (i := 955) (by decide +kernel) (by decide +kernel)
theorem wd_X5_225 : Cond.constantLong RX5 225 (2147483647) ∈ mj_T := tb_k (i := 956) (by decide +kernel) (by decide +kernel)
theorem wd_X5_227 : Cond.constantLong RX5 227 (21) ∈ mj_T := tb_k (i := 957) (by decide +kernel) (by decide +kernel)
theorem wd_L_148 : Cond.methodLink RL 148 yX5_image ∈ mj_T := tb_k (i := 958) (by decide +kernel) (by decide +kernel)
theorem wd_L_152 : Cond.methodLink RL 152 yX5_restore ∈ mj_T := tb_k (i := 962) (by decide +kernel) (by decide +kernel)
theorem wd_L_156 : Cond.methodLink RL 156 yX5_kind ∈ mj_T := tb_k (i := 966) (by decide +kernel) (by decide +kernel)
theorem wd_L_160 : Cond.methodLink RL 160 yX5_as ∈ mj_T := tb_k (i := 970) (by decide +kernel) (by decide +kernel)
theorem wd_X5_229 : Cond.constantLong RX5 229 (5) ∈ mj_T := tb_k (i := 974) (by decide +kernel) (by decide +kernel)
theorem wd_X5_231 : Cond.methodLink RX5 231 yX5_isKind ∈ mj_T := tb_k (i := 975) (by decide +kernel) (by decide +kernel)
theorem wd_L_164 : Cond.methodLink RL 164 yX5_ask ∈ mj_T := tb_k (i := 978) (by decide +kernel) (by decide +kernel)
theorem wd_X5_258 : Cond.methodLink RX5 258 yX5_sizeOf ∈ mj_T := tb_k (i := 982) (by decide +kernel) (by decide +kernel)
theorem wd_X5_237 : Cond.methodLink RX5 237 yX5_begin ∈ mj_T := tb_k (i := 986) (by decide +kernel) (by decide +kernel)
theorem wd_X5_255 : Cond.methodLink RX5 255 yX5_kindlySize ∈ mj_T := tb_k (i := 990) (by decide +kernel) (by decide +kernel)
theorem wd_X5_240 : Cond.methodLink RX5 240 yX5_lent ∈ mj_T := tb_k (i := 994) (by decide +kernel) (by decide +kernel)
theorem wd_X5_252 : Cond.methodLink RX5 252 yX5_markOf ∈ mj_T := tb_k (i := 998) (by decide +kernel) (by decide +kernel)
theorem wd_X5_246 : Cond.methodLink RX5 246 yX5_kindlyMark ∈ mj_T := tb_k (i := 1002) (by decide +kernel) (by decide +kernel)
theorem wd_X5_249 : Cond.methodLink RX5 249 yX5_sizeOfSilent ∈ mj_T := tb_k (i := 1006) (by decide +kernel) (by decide +kernel)
theorem wd_X5_243 : Cond.methodLink RX5 243 yX5_silentSize ∈ mj_T := tb_k (i := 1010) (by decide +kernel) (by decide +kernel)
theorem wd_L_168 : Cond.methodLink RL 168 yX5_trace ∈ mj_T := tb_k (i := 1014) (by decide +kernel) (by decide +kernel)
theorem wd_L_172 : Cond.methodLink RL 172 yX5_count ∈ mj_T := tb_k (i := 1018) (by decide +kernel) (by decide +kernel)
theorem wd_L_176 : Cond.methodLink RL 176 yX5_status ∈ mj_T := tb_k (i := 1022) (by decide +kernel) (by decide +kernel)
theorem inT_X0 : ∀ w ∈ u_ws RX0 TX0 3, w ∈ mj_T := tb_all [122, 124, 126] (by decide +kernel) (by decide +kernel)
theorem wIn_X0 : Cond.instantiable RX0 3 ∈ mj_T := tb_k (i := 110) (by decide +kernel) (by decide +kernel)
theorem wNi_X0 : Cond.initialized RX0 ∈ mj_T := tb_k (i := 4) (by decide +kernel) (by decide +kernel)
theorem inT_X1 : ∀ w ∈ u_ws RX1 TX1 3, w ∈ mj_T := tb_all [140, 142, 144] (by decide +kernel) (by decide +kernel)
theorem wIn_X1 : Cond.instantiable RX1 3 ∈ mj_T := tb_k (i := 129) (by decide +kernel) (by decide +kernel)
theorem wNi_X1 : Cond.initialized RX1 ∈ mj_T := tb_k (i := 5) (by decide +kernel) (by decide +kernel)
theorem inT_X2 : ∀ w ∈ u_ws RX2 TX2 12, w ∈ mj_T := tb_all [84, 86, 88, 90, 92, 94, 96, 98, 100, 102, 104, 106] (by decide +kernel) (by decide +kernel)
theorem wIn_X2 : Cond.instantiable RX2 12 ∈ mj_T := tb_k (i := 57) (by decide +kernel) (by decide +kernel)
theorem wNi_X2 : Cond.initialized RX2 ∈ mj_T := tb_k (i := 3) (by decide +kernel) (by decide +kernel)
theorem inT_X3 : ∀ w ∈ u_ws RX3 TX3 8, w ∈ mj_T := tb_all [38, 40, 42, 44, 46, 48, 50, 52] (by decide +kernel) (by decide +kernel)
theorem wIn_X3 : Cond.instantiable RX3 8 ∈ mj_T := tb_k (i := 22) (by decide +kernel) (by decide +kernel)
theorem wNi_X3 : Cond.initialized RX3 ∈ mj_T := tb_k (i := 2) (by decide +kernel) (by decide +kernel)
theorem inT_X4 : ∀ w ∈ u_ws RX4 TX4 10, w ∈ mj_T := tb_all [157, 159, 161, 163, 165, 167, 169, 171, 173, 175] (by decide +kernel) (by decide +kernel)
theorem wIn_X4 : Cond.instantiable RX4 10 ∈ mj_T := tb_k (i := 12) (by decide +kernel) (by decide +kernel)
theorem wNi_X4 : Cond.initialized RX4 ∈ mj_T := tb_k (i := 1) (by decide +kernel) (by decide +kernel)
theorem inT_X5 : ∀ w ∈ u_ws RX5 TX5 23, w ∈ mj_T := tb_all [644, 646, 648, 650, 652, 654, 656, 658, 660, 662, 664, 666, 668, 670, 672, 674, 676, 678, 680, 682, 684, 686, 688] (by decide +kernel) (by decide +kernel)
theorem wIn_X5 : Cond.instantiable RX5 23 ∈ mj_T := tb_k (i := 616) (by decide +kernel) (by decide +kernel)
theorem wNi_X5 : Cond.initialized RX5 ∈ mj_T := tb_k (i := 6) (by decide +kernel) (by decide +kernel)
theorem wNi_sys : Cond.initialized "java/lang/System" ∈ mj_T := tb_k (i := 8) (by decide +kernel) (by decide +kernel)
theorem wNat_cpy : Cond.native arraycopyName ∈ mj_T := tb_k (i := 233) (by decide +kernel) (by decide +kernel)
theorem wSt_cpy : Cond.static arraycopyName ∈ mj_T := tb_k (i := 232) (by decide +kernel) (by decide +kernel)
theorem wObI : Cond.instanceMethod objectInit ∈ mj_T := tb_k (i := 17) (by decide +kernel) (by decide +kernel)
theorem wObC : Cond.code objectInit ⟨#[0xb1]⟩ 1 none ∈ mj_T := tb_k (i := 18) (by decide +kernel) (by decide +kernel)
theorem wAc_int : Cond.arrayClass .int ∈ mj_T := tb_k (i := 55) (by decide +kernel) (by decide +kernel)
theorem wAc_boolean : Cond.arrayClass .boolean ∈ mj_T := tb_k (i := 691) (by decide +kernel) (by decide +kernel)
theorem wAo_X1 : Cond.arrayOver (.object RX1) ∈ lw_tbl := List.mem_append_right _ (List.mem_of_getElem? (i := 20) (by decide +kernel))
theorem wAo_X2 : Cond.arrayOver (.object RX2) ∈ lw_tbl := List.mem_append_right _ (List.mem_of_getElem? (i := 116) (by decide +kernel))
theorem wLs_PARENTS : Cond.laysStatic RX4 "PARENTS" "[I" ∈ lw_tbl := List.mem_append_right _ (List.mem_of_getElem? (i := 575) (by decide +kernel))
theorem wLs_SIZE_BODIES : Cond.laysStatic RX4 "SIZE_BODIES" "[I" ∈ lw_tbl := List.mem_append_right _ (List.mem_of_getElem? (i := 588) (by decide +kernel))
theorem wLs_MARK_BODIES : Cond.laysStatic RX4 "MARK_BODIES" "[I" ∈ lw_tbl := List.mem_append_right _ (List.mem_of_getElem? (i := 590) (by decide +kernel))
theorem wNest_X3_73 : Cond.methodLinkNest RX3 73 yX4_isWithin "NearlySaid" ∈ lw_tbl := List.mem_append_right _ (List.mem_of_getElem? (i := 282) (by decide +kernel))
theorem wNest_X2_77 : Cond.methodLinkNest RX2 77 yX4_shedBy "NearlySaid" ∈ lw_tbl := List.mem_append_right _ (List.mem_of_getElem? (i := 367) (by decide +kernel))
