section
-- ===== PART A: goes FIRST, ahead of the names: the tables' words, and 'selects' of the private methods out of them =====
/-- a private method of a class that the tables say can be made, by its rows of tables_1 -/
def lw_okq (q : MethodName × Nat) : Prop := (q.1.cls ≠ "java/lang/invoke/MethodHandle" ∧ q.1.cls ≠ "java/lang/invoke/VarHandle") ∧ Cond.instantiable q.1.cls q.2 ∈ tables_1 ∧ Cond.privateMethod q.1 ∈ tables_1 ∧ Cond.instanceMethod q.1 ∈ tables_1
theorem lw_p0 : lw_okq (⟨"MarbleRun", "found", "(I)I"⟩, 10) := ⟨⟨by decide +kernel, by decide +kernel⟩, List.mem_of_getElem? (i := 14) (by decide +kernel), List.mem_of_getElem? (i := 266) (by decide +kernel), List.mem_of_getElem? (i := 267) (by decide +kernel)⟩
theorem lw_p1 : lw_okq (⟨"MarbleRun", "foundNone", "(I)I"⟩, 10) := ⟨⟨by decide +kernel, by decide +kernel⟩, List.mem_of_getElem? (i := 14) (by decide +kernel), List.mem_of_getElem? (i := 275) (by decide +kernel), List.mem_of_getElem? (i := 276) (by decide +kernel)⟩
theorem lw_p2 : lw_okq (⟨"MarbleRun", "findingAt", "(III)I"⟩, 10) := ⟨⟨by decide +kernel, by decide +kernel⟩, List.mem_of_getElem? (i := 14) (by decide +kernel), List.mem_of_getElem? (i := 283) (by decide +kernel), List.mem_of_getElem? (i := 284) (by decide +kernel)⟩
theorem lw_p3 : lw_okq (⟨"MarbleRun$Tape", "readLaw", "(LMarbleRun$Track;)Z"⟩, 5) := ⟨⟨by decide +kernel, by decide +kernel⟩, List.mem_of_getElem? (i := 44) (by decide +kernel), List.mem_of_getElem? (i := 349) (by decide +kernel), List.mem_of_getElem? (i := 350) (by decide +kernel)⟩
theorem lw_p4 : lw_okq (⟨"MarbleRun$Tape", "take", "(I)Z"⟩, 5) := ⟨⟨by decide +kernel, by decide +kernel⟩, List.mem_of_getElem? (i := 44) (by decide +kernel), List.mem_of_getElem? (i := 353) (by decide +kernel), List.mem_of_getElem? (i := 354) (by decide +kernel)⟩
theorem lw_p5 : lw_okq (⟨"MarbleRun$Tape", "next", "()I"⟩, 5) := ⟨⟨by decide +kernel, by decide +kernel⟩, List.mem_of_getElem? (i := 44) (by decide +kernel), List.mem_of_getElem? (i := 357) (by decide +kernel), List.mem_of_getElem? (i := 358) (by decide +kernel)⟩
theorem lw_p6 : lw_okq (⟨"MarbleRun$Tape", "byteAt", "(I)I"⟩, 5) := ⟨⟨by decide +kernel, by decide +kernel⟩, List.mem_of_getElem? (i := 44) (by decide +kernel), List.mem_of_getElem? (i := 361) (by decide +kernel), List.mem_of_getElem? (i := 362) (by decide +kernel)⟩
theorem lw_p7 : lw_okq (⟨"MarbleRun$Tape", "fails", "(I)Z"⟩, 5) := ⟨⟨by decide +kernel, by decide +kernel⟩, List.mem_of_getElem? (i := 44) (by decide +kernel), List.mem_of_getElem? (i := 365) (by decide +kernel), List.mem_of_getElem? (i := 366) (by decide +kernel)⟩
theorem lw_p8 : lw_okq (⟨"MarbleRun$Tape", "takeNumber", "(II)Z"⟩, 5) := ⟨⟨by decide +kernel, by decide +kernel⟩, List.mem_of_getElem? (i := 44) (by decide +kernel), List.mem_of_getElem? (i := 369) (by decide +kernel), List.mem_of_getElem? (i := 370) (by decide +kernel)⟩
theorem lw_p9 : lw_okq (⟨"MarbleRun$Tape", "isFigureAt", "(I)Z"⟩, 5) := ⟨⟨by decide +kernel, by decide +kernel⟩, List.mem_of_getElem? (i := 44) (by decide +kernel), List.mem_of_getElem? (i := 373) (by decide +kernel), List.mem_of_getElem? (i := 374) (by decide +kernel)⟩
theorem lw_p10 : lw_okq (⟨"MarbleRun$Tape", "readMarbles", "(LMarbleRun$Track;)Z"⟩, 5) := ⟨⟨by decide +kernel, by decide +kernel⟩, List.mem_of_getElem? (i := 44) (by decide +kernel), List.mem_of_getElem? (i := 377) (by decide +kernel), List.mem_of_getElem? (i := 378) (by decide +kernel)⟩
theorem lw_p11 : lw_okq (⟨"MarbleRun$Tape", "readMarble", "(LMarbleRun$Track;I)Z"⟩, 5) := ⟨⟨by decide +kernel, by decide +kernel⟩, List.mem_of_getElem? (i := 44) (by decide +kernel), List.mem_of_getElem? (i := 381) (by decide +kernel), List.mem_of_getElem? (i := 382) (by decide +kernel)⟩
theorem lw_p12 : lw_okq (⟨"MarbleRun$Tape", "readPieces", "(LMarbleRun$Track;)Z"⟩, 5) := ⟨⟨by decide +kernel, by decide +kernel⟩, List.mem_of_getElem? (i := 44) (by decide +kernel), List.mem_of_getElem? (i := 385) (by decide +kernel), List.mem_of_getElem? (i := 386) (by decide +kernel)⟩
theorem lw_p13 : lw_okq (⟨"MarbleRun$Tape", "readPiece", "(LMarbleRun$Track;I)Z"⟩, 5) := ⟨⟨by decide +kernel, by decide +kernel⟩, List.mem_of_getElem? (i := 44) (by decide +kernel), List.mem_of_getElem? (i := 392) (by decide +kernel), List.mem_of_getElem? (i := 393) (by decide +kernel)⟩
theorem lw_p14 : lw_okq (⟨"MarbleRun", "noRun", "()Z"⟩, 10) := ⟨⟨by decide +kernel, by decide +kernel⟩, List.mem_of_getElem? (i := 14) (by decide +kernel), List.mem_of_getElem? (i := 440) (by decide +kernel), List.mem_of_getElem? (i := 441) (by decide +kernel)⟩
theorem lw_p15 : lw_okq (⟨"MarbleRun$Track", "letIn", "()I"⟩, 15) := ⟨⟨by decide +kernel, by decide +kernel⟩, List.mem_of_getElem? (i := 66) (by decide +kernel), List.mem_of_getElem? (i := 455) (by decide +kernel), List.mem_of_getElem? (i := 456) (by decide +kernel)⟩
def lw_privs_1 : List (MethodName × Nat) := [(⟨"MarbleRun", "found", "(I)I"⟩, 10), (⟨"MarbleRun", "foundNone", "(I)I"⟩, 10), (⟨"MarbleRun", "findingAt", "(III)I"⟩, 10), (⟨"MarbleRun$Tape", "readLaw", "(LMarbleRun$Track;)Z"⟩, 5), (⟨"MarbleRun$Tape", "take", "(I)Z"⟩, 5), (⟨"MarbleRun$Tape", "next", "()I"⟩, 5), (⟨"MarbleRun$Tape", "byteAt", "(I)I"⟩, 5), (⟨"MarbleRun$Tape", "fails", "(I)Z"⟩, 5), (⟨"MarbleRun$Tape", "takeNumber", "(II)Z"⟩, 5), (⟨"MarbleRun$Tape", "isFigureAt", "(I)Z"⟩, 5), (⟨"MarbleRun$Tape", "readMarbles", "(LMarbleRun$Track;)Z"⟩, 5), (⟨"MarbleRun$Tape", "readMarble", "(LMarbleRun$Track;I)Z"⟩, 5), (⟨"MarbleRun$Tape", "readPieces", "(LMarbleRun$Track;)Z"⟩, 5), (⟨"MarbleRun$Tape", "readPiece", "(LMarbleRun$Track;I)Z"⟩, 5), (⟨"MarbleRun", "noRun", "()Z"⟩, 10), (⟨"MarbleRun$Track", "letIn", "()I"⟩, 15)]
theorem lw_r1 : ∀ q ∈ lw_privs_1, lw_okq q := List.forall_mem_cons.mpr ⟨lw_p0, List.forall_mem_cons.mpr ⟨lw_p1, List.forall_mem_cons.mpr ⟨lw_p2, List.forall_mem_cons.mpr ⟨lw_p3, List.forall_mem_cons.mpr ⟨lw_p4, List.forall_mem_cons.mpr ⟨lw_p5, List.forall_mem_cons.mpr ⟨lw_p6, List.forall_mem_cons.mpr ⟨lw_p7, List.forall_mem_cons.mpr ⟨lw_p8, List.forall_mem_cons.mpr ⟨lw_p9, List.forall_mem_cons.mpr ⟨lw_p10, List.forall_mem_cons.mpr ⟨lw_p11, List.forall_mem_cons.mpr ⟨lw_p12, List.forall_mem_cons.mpr ⟨lw_p13, List.forall_mem_cons.mpr ⟨lw_p14, List.forall_mem_cons.mpr ⟨lw_p15, fun _ h => absurd h List.not_mem_nil⟩⟩⟩⟩⟩⟩⟩⟩⟩⟩⟩⟩⟩⟩⟩⟩
theorem lw_p16 : lw_okq (⟨"MarbleRun$Track", "leave", "(II)V"⟩, 15) := ⟨⟨by decide +kernel, by decide +kernel⟩, List.mem_of_getElem? (i := 66) (by decide +kernel), List.mem_of_getElem? (i := 459) (by decide +kernel), List.mem_of_getElem? (i := 460) (by decide +kernel)⟩
theorem lw_p17 : lw_okq (⟨"MarbleRun$Track", "send", "(II)V"⟩, 15) := ⟨⟨by decide +kernel, by decide +kernel⟩, List.mem_of_getElem? (i := 66) (by decide +kernel), List.mem_of_getElem? (i := 464) (by decide +kernel), List.mem_of_getElem? (i := 465) (by decide +kernel)⟩
theorem lw_p18 : lw_okq (⟨"MarbleRun$Track", "hold", "(II)V"⟩, 15) := ⟨⟨by decide +kernel, by decide +kernel⟩, List.mem_of_getElem? (i := 66) (by decide +kernel), List.mem_of_getElem? (i := 472) (by decide +kernel), List.mem_of_getElem? (i := 473) (by decide +kernel)⟩
theorem lw_p19 : lw_okq (⟨"MarbleRun$Track", "bitsBetween", "(II)I"⟩, 15) := ⟨⟨by decide +kernel, by decide +kernel⟩, List.mem_of_getElem? (i := 66) (by decide +kernel), List.mem_of_getElem? (i := 480) (by decide +kernel), List.mem_of_getElem? (i := 481) (by decide +kernel)⟩
theorem lw_p20 : lw_okq (⟨"MarbleRun", "noPiece", "(I)Z"⟩, 10) := ⟨⟨by decide +kernel, by decide +kernel⟩, List.mem_of_getElem? (i := 14) (by decide +kernel), List.mem_of_getElem? (i := 488) (by decide +kernel), List.mem_of_getElem? (i := 489) (by decide +kernel)⟩
theorem lw_p21 : lw_okq (⟨"MarbleRun", "noMarble", "(I)Z"⟩, 10) := ⟨⟨by decide +kernel, by decide +kernel⟩, List.mem_of_getElem? (i := 14) (by decide +kernel), List.mem_of_getElem? (i := 504) (by decide +kernel), List.mem_of_getElem? (i := 505) (by decide +kernel)⟩
theorem lw_p22 : lw_okq (⟨"MarbleRun$Seer", "goOn", "(I)V"⟩, 10) := ⟨⟨by decide +kernel, by decide +kernel⟩, List.mem_of_getElem? (i := 172) (by decide +kernel), List.mem_of_getElem? (i := 545) (by decide +kernel), List.mem_of_getElem? (i := 546) (by decide +kernel)⟩
theorem lw_p23 : lw_okq (⟨"MarbleRun$Seer", "preferTips", "(II)V"⟩, 10) := ⟨⟨by decide +kernel, by decide +kernel⟩, List.mem_of_getElem? (i := 172) (by decide +kernel), List.mem_of_getElem? (i := 607) (by decide +kernel), List.mem_of_getElem? (i := 608) (by decide +kernel)⟩
theorem lw_p24 : lw_okq (⟨"MarbleRun$Seer", "isFirstOfAlike", "(LMarbleRun$Track;)Z"⟩, 10) := ⟨⟨by decide +kernel, by decide +kernel⟩, List.mem_of_getElem? (i := 172) (by decide +kernel), List.mem_of_getElem? (i := 629) (by decide +kernel), List.mem_of_getElem? (i := 630) (by decide +kernel)⟩
theorem lw_p25 : lw_okq (⟨"MarbleRun$Seer", "tryOrder", "(LMarbleRun$Track;I)V"⟩, 10) := ⟨⟨by decide +kernel, by decide +kernel⟩, List.mem_of_getElem? (i := 172) (by decide +kernel), List.mem_of_getElem? (i := 633) (by decide +kernel), List.mem_of_getElem? (i := 634) (by decide +kernel)⟩
theorem lw_p26 : lw_okq (⟨"MarbleRun$Seer", "stepToNextOrder", "(I)Z"⟩, 10) := ⟨⟨by decide +kernel, by decide +kernel⟩, List.mem_of_getElem? (i := 172) (by decide +kernel), List.mem_of_getElem? (i := 643) (by decide +kernel), List.mem_of_getElem? (i := 644) (by decide +kernel)⟩
theorem lw_p27 : lw_okq (⟨"MarbleRun$Seer", "swapTried", "(II)V"⟩, 10) := ⟨⟨by decide +kernel, by decide +kernel⟩, List.mem_of_getElem? (i := 172) (by decide +kernel), List.mem_of_getElem? (i := 647) (by decide +kernel), List.mem_of_getElem? (i := 648) (by decide +kernel)⟩
theorem lw_p28 : lw_okq (⟨"MarbleRun", "setsOf", "(II)I"⟩, 10) := ⟨⟨by decide +kernel, by decide +kernel⟩, List.mem_of_getElem? (i := 14) (by decide +kernel), List.mem_of_getElem? (i := 667) (by decide +kernel), List.mem_of_getElem? (i := 668) (by decide +kernel)⟩
theorem lw_p29 : lw_okq (⟨"MarbleRun", "shareOf", "(II)I"⟩, 10) := ⟨⟨by decide +kernel, by decide +kernel⟩, List.mem_of_getElem? (i := 14) (by decide +kernel), List.mem_of_getElem? (i := 680) (by decide +kernel), List.mem_of_getElem? (i := 681) (by decide +kernel)⟩
theorem lw_p30 : lw_okq (⟨"MarbleRun$Seer", "weighSets", "(LMarbleRun$Track;III)V"⟩, 10) := ⟨⟨by decide +kernel, by decide +kernel⟩, List.mem_of_getElem? (i := 172) (by decide +kernel), List.mem_of_getElem? (i := 696) (by decide +kernel), List.mem_of_getElem? (i := 697) (by decide +kernel)⟩
theorem lw_p31 : lw_okq (⟨"MarbleRun$Seer", "playTurn", "(III)V"⟩, 10) := ⟨⟨by decide +kernel, by decide +kernel⟩, List.mem_of_getElem? (i := 172) (by decide +kernel), List.mem_of_getElem? (i := 700) (by decide +kernel), List.mem_of_getElem? (i := 701) (by decide +kernel)⟩
def lw_privs_2 : List (MethodName × Nat) := [(⟨"MarbleRun$Track", "leave", "(II)V"⟩, 15), (⟨"MarbleRun$Track", "send", "(II)V"⟩, 15), (⟨"MarbleRun$Track", "hold", "(II)V"⟩, 15), (⟨"MarbleRun$Track", "bitsBetween", "(II)I"⟩, 15), (⟨"MarbleRun", "noPiece", "(I)Z"⟩, 10), (⟨"MarbleRun", "noMarble", "(I)Z"⟩, 10), (⟨"MarbleRun$Seer", "goOn", "(I)V"⟩, 10), (⟨"MarbleRun$Seer", "preferTips", "(II)V"⟩, 10), (⟨"MarbleRun$Seer", "isFirstOfAlike", "(LMarbleRun$Track;)Z"⟩, 10), (⟨"MarbleRun$Seer", "tryOrder", "(LMarbleRun$Track;I)V"⟩, 10), (⟨"MarbleRun$Seer", "stepToNextOrder", "(I)Z"⟩, 10), (⟨"MarbleRun$Seer", "swapTried", "(II)V"⟩, 10), (⟨"MarbleRun", "setsOf", "(II)I"⟩, 10), (⟨"MarbleRun", "shareOf", "(II)I"⟩, 10), (⟨"MarbleRun$Seer", "weighSets", "(LMarbleRun$Track;III)V"⟩, 10), (⟨"MarbleRun$Seer", "playTurn", "(III)V"⟩, 10)]
theorem lw_r2 : ∀ q ∈ lw_privs_2, lw_okq q := List.forall_mem_cons.mpr ⟨lw_p16, List.forall_mem_cons.mpr ⟨lw_p17, List.forall_mem_cons.mpr ⟨lw_p18, List.forall_mem_cons.mpr ⟨lw_p19, List.forall_mem_cons.mpr ⟨lw_p20, List.forall_mem_cons.mpr ⟨lw_p21, List.forall_mem_cons.mpr ⟨lw_p22, List.forall_mem_cons.mpr ⟨lw_p23, List.forall_mem_cons.mpr ⟨lw_p24, List.forall_mem_cons.mpr ⟨lw_p25, List.forall_mem_cons.mpr ⟨lw_p26, List.forall_mem_cons.mpr ⟨lw_p27, List.forall_mem_cons.mpr ⟨lw_p28, List.forall_mem_cons.mpr ⟨lw_p29, List.forall_mem_cons.mpr ⟨lw_p30, List.forall_mem_cons.mpr ⟨lw_p31, fun _ h => absurd h List.not_mem_nil⟩⟩⟩⟩⟩⟩⟩⟩⟩⟩⟩⟩⟩⟩⟩⟩
theorem lw_p32 : lw_okq (⟨"MarbleRun$Seer", "bitIfFit", "(I)I"⟩, 10) := ⟨⟨by decide +kernel, by decide +kernel⟩, List.mem_of_getElem? (i := 172) (by decide +kernel), List.mem_of_getElem? (i := 724) (by decide +kernel), List.mem_of_getElem? (i := 725) (by decide +kernel)⟩
theorem lw_p33 : lw_okq (⟨"MarbleRun$Seer", "fits", "()Z"⟩, 10) := ⟨⟨by decide +kernel, by decide +kernel⟩, List.mem_of_getElem? (i := 172) (by decide +kernel), List.mem_of_getElem? (i := 728) (by decide +kernel), List.mem_of_getElem? (i := 729) (by decide +kernel)⟩
theorem lw_p34 : lw_okq (⟨"MarbleRun$Seer", "disturb", "(I)V"⟩, 10) := ⟨⟨by decide +kernel, by decide +kernel⟩, List.mem_of_getElem? (i := 172) (by decide +kernel), List.mem_of_getElem? (i := 776) (by decide +kernel), List.mem_of_getElem? (i := 777) (by decide +kernel)⟩
theorem lw_p35 : lw_okq (⟨"MarbleRun$Asker", "body11", "(LMarbleRun$Track;I)I"⟩, 2) := ⟨⟨by decide +kernel, by decide +kernel⟩, List.mem_of_getElem? (i := 211) (by decide +kernel), List.mem_of_getElem? (i := 815) (by decide +kernel), List.mem_of_getElem? (i := 816) (by decide +kernel)⟩
theorem lw_p36 : lw_okq (⟨"MarbleRun$Asker", "begin", "(I)V"⟩, 2) := ⟨⟨by decide +kernel, by decide +kernel⟩, List.mem_of_getElem? (i := 211) (by decide +kernel), List.mem_of_getElem? (i := 819) (by decide +kernel), List.mem_of_getElem? (i := 820) (by decide +kernel)⟩
theorem lw_p37 : lw_okq (⟨"MarbleRun$Asker", "body10", "(LMarbleRun$Track;I)I"⟩, 2) := ⟨⟨by decide +kernel, by decide +kernel⟩, List.mem_of_getElem? (i := 211) (by decide +kernel), List.mem_of_getElem? (i := 823) (by decide +kernel), List.mem_of_getElem? (i := 824) (by decide +kernel)⟩
theorem lw_p38 : lw_okq (⟨"MarbleRun$Asker", "body21", "(LMarbleRun$Track;I)I"⟩, 2) := ⟨⟨by decide +kernel, by decide +kernel⟩, List.mem_of_getElem? (i := 211) (by decide +kernel), List.mem_of_getElem? (i := 831) (by decide +kernel), List.mem_of_getElem? (i := 832) (by decide +kernel)⟩
theorem lw_p39 : lw_okq (⟨"MarbleRun$Asker", "body20", "(LMarbleRun$Track;I)I"⟩, 2) := ⟨⟨by decide +kernel, by decide +kernel⟩, List.mem_of_getElem? (i := 211) (by decide +kernel), List.mem_of_getElem? (i := 835) (by decide +kernel), List.mem_of_getElem? (i := 836) (by decide +kernel)⟩
theorem lw_p40 : lw_okq (⟨"MarbleRun$Asker", "body24", "(LMarbleRun$Track;I)I"⟩, 2) := ⟨⟨by decide +kernel, by decide +kernel⟩, List.mem_of_getElem? (i := 211) (by decide +kernel), List.mem_of_getElem? (i := 839) (by decide +kernel), List.mem_of_getElem? (i := 840) (by decide +kernel)⟩
theorem lw_p41 : lw_okq (⟨"MarbleRun$Asker", "body22", "(LMarbleRun$Track;I)I"⟩, 2) := ⟨⟨by decide +kernel, by decide +kernel⟩, List.mem_of_getElem? (i := 211) (by decide +kernel), List.mem_of_getElem? (i := 843) (by decide +kernel), List.mem_of_getElem? (i := 844) (by decide +kernel)⟩
theorem lw_p42 : lw_okq (⟨"MarbleRun$Asker", "body23", "(LMarbleRun$Track;I)I"⟩, 2) := ⟨⟨by decide +kernel, by decide +kernel⟩, List.mem_of_getElem? (i := 211) (by decide +kernel), List.mem_of_getElem? (i := 847) (by decide +kernel), List.mem_of_getElem? (i := 848) (by decide +kernel)⟩
theorem lw_p43 : lw_okq (⟨"MarbleRun$Asker", "body12", "(LMarbleRun$Track;I)I"⟩, 2) := ⟨⟨by decide +kernel, by decide +kernel⟩, List.mem_of_getElem? (i := 211) (by decide +kernel), List.mem_of_getElem? (i := 852) (by decide +kernel), List.mem_of_getElem? (i := 853) (by decide +kernel)⟩
theorem lw_p44 : lw_okq (⟨"MarbleRun$Asker", "body13", "(LMarbleRun$Track;I)I"⟩, 2) := ⟨⟨by decide +kernel, by decide +kernel⟩, List.mem_of_getElem? (i := 211) (by decide +kernel), List.mem_of_getElem? (i := 856) (by decide +kernel), List.mem_of_getElem? (i := 857) (by decide +kernel)⟩
theorem lw_p45 : lw_okq (⟨"MarbleRun$Asker", "body14", "(LMarbleRun$Track;I)I"⟩, 2) := ⟨⟨by decide +kernel, by decide +kernel⟩, List.mem_of_getElem? (i := 211) (by decide +kernel), List.mem_of_getElem? (i := 860) (by decide +kernel), List.mem_of_getElem? (i := 861) (by decide +kernel)⟩
theorem lw_p46 : lw_okq (⟨"MarbleRunModel", "byNumbers", "()V"⟩, 32) := ⟨⟨by decide +kernel, by decide +kernel⟩, List.mem_of_getElem? (i := 888) (by decide +kernel), List.mem_of_getElem? (i := 894) (by decide +kernel), List.mem_of_getElem? (i := 895) (by decide +kernel)⟩
theorem lw_p47 : lw_okq (⟨"MarbleRunModel", "isRow", "(I)Z"⟩, 32) := ⟨⟨by decide +kernel, by decide +kernel⟩, List.mem_of_getElem? (i := 888) (by decide +kernel), List.mem_of_getElem? (i := 1000) (by decide +kernel), List.mem_of_getElem? (i := 1001) (by decide +kernel)⟩
def lw_privs_3 : List (MethodName × Nat) := [(⟨"MarbleRun$Seer", "bitIfFit", "(I)I"⟩, 10), (⟨"MarbleRun$Seer", "fits", "()Z"⟩, 10), (⟨"MarbleRun$Seer", "disturb", "(I)V"⟩, 10), (⟨"MarbleRun$Asker", "body11", "(LMarbleRun$Track;I)I"⟩, 2), (⟨"MarbleRun$Asker", "begin", "(I)V"⟩, 2), (⟨"MarbleRun$Asker", "body10", "(LMarbleRun$Track;I)I"⟩, 2), (⟨"MarbleRun$Asker", "body21", "(LMarbleRun$Track;I)I"⟩, 2), (⟨"MarbleRun$Asker", "body20", "(LMarbleRun$Track;I)I"⟩, 2), (⟨"MarbleRun$Asker", "body24", "(LMarbleRun$Track;I)I"⟩, 2), (⟨"MarbleRun$Asker", "body22", "(LMarbleRun$Track;I)I"⟩, 2), (⟨"MarbleRun$Asker", "body23", "(LMarbleRun$Track;I)I"⟩, 2), (⟨"MarbleRun$Asker", "body12", "(LMarbleRun$Track;I)I"⟩, 2), (⟨"MarbleRun$Asker", "body13", "(LMarbleRun$Track;I)I"⟩, 2), (⟨"MarbleRun$Asker", "body14", "(LMarbleRun$Track;I)I"⟩, 2), (⟨"MarbleRunModel", "byNumbers", "()V"⟩, 32), (⟨"MarbleRunModel", "isRow", "(I)Z"⟩, 32)]
theorem lw_r3 : ∀ q ∈ lw_privs_3, lw_okq q := List.forall_mem_cons.mpr ⟨lw_p32, List.forall_mem_cons.mpr ⟨lw_p33, List.forall_mem_cons.mpr ⟨lw_p34, List.forall_mem_cons.mpr ⟨lw_p35, List.forall_mem_cons.mpr ⟨lw_p36, List.forall_mem_cons.mpr ⟨lw_p37, List.forall_mem_cons.mpr ⟨lw_p38, List.forall_mem_cons.mpr ⟨lw_p39, List.forall_mem_cons.mpr ⟨lw_p40, List.forall_mem_cons.mpr ⟨lw_p41, List.forall_mem_cons.mpr ⟨lw_p42, List.forall_mem_cons.mpr ⟨lw_p43, List.forall_mem_cons.mpr ⟨lw_p44, List.forall_mem_cons.mpr ⟨lw_p45, List.forall_mem_cons.mpr ⟨lw_p46, List.forall_mem_cons.mpr ⟨lw_p47, fun _ h => absurd h List.not_mem_nil⟩⟩⟩⟩⟩⟩⟩⟩⟩⟩⟩⟩⟩⟩⟩⟩
theorem lw_p48 : lw_okq (⟨"MarbleRunModel", "finds", "(I)I"⟩, 32) := ⟨⟨by decide +kernel, by decide +kernel⟩, List.mem_of_getElem? (i := 888) (by decide +kernel), List.mem_of_getElem? (i := 1008) (by decide +kernel), List.mem_of_getElem? (i := 1009) (by decide +kernel)⟩
theorem lw_p49 : lw_okq (⟨"MarbleRunModel", "readRun", "()V"⟩, 32) := ⟨⟨by decide +kernel, by decide +kernel⟩, List.mem_of_getElem? (i := 888) (by decide +kernel), List.mem_of_getElem? (i := 1040) (by decide +kernel), List.mem_of_getElem? (i := 1041) (by decide +kernel)⟩
theorem lw_p50 : lw_okq (⟨"MarbleRunModel", "sign", "(I)V"⟩, 32) := ⟨⟨by decide +kernel, by decide +kernel⟩, List.mem_of_getElem? (i := 888) (by decide +kernel), List.mem_of_getElem? (i := 1045) (by decide +kernel), List.mem_of_getElem? (i := 1046) (by decide +kernel)⟩
theorem lw_p51 : lw_okq (⟨"MarbleRunModel", "here", "()I"⟩, 32) := ⟨⟨by decide +kernel, by decide +kernel⟩, List.mem_of_getElem? (i := 888) (by decide +kernel), List.mem_of_getElem? (i := 1049) (by decide +kernel), List.mem_of_getElem? (i := 1050) (by decide +kernel)⟩
theorem lw_p52 : lw_okq (⟨"MarbleRunModel", "fails", "(I)V"⟩, 32) := ⟨⟨by decide +kernel, by decide +kernel⟩, List.mem_of_getElem? (i := 888) (by decide +kernel), List.mem_of_getElem? (i := 1053) (by decide +kernel), List.mem_of_getElem? (i := 1054) (by decide +kernel)⟩
theorem lw_p53 : lw_okq (⟨"MarbleRunModel", "number", "(II)I"⟩, 32) := ⟨⟨by decide +kernel, by decide +kernel⟩, List.mem_of_getElem? (i := 888) (by decide +kernel), List.mem_of_getElem? (i := 1057) (by decide +kernel), List.mem_of_getElem? (i := 1058) (by decide +kernel)⟩
theorem lw_p54 : lw_okq (⟨"MarbleRunModel", "figures", "()I"⟩, 32) := ⟨⟨by decide +kernel, by decide +kernel⟩, List.mem_of_getElem? (i := 888) (by decide +kernel), List.mem_of_getElem? (i := 1061) (by decide +kernel), List.mem_of_getElem? (i := 1062) (by decide +kernel)⟩
theorem lw_p55 : lw_okq (⟨"MarbleRunModel", "readMarble", "()V"⟩, 32) := ⟨⟨by decide +kernel, by decide +kernel⟩, List.mem_of_getElem? (i := 888) (by decide +kernel), List.mem_of_getElem? (i := 1065) (by decide +kernel), List.mem_of_getElem? (i := 1066) (by decide +kernel)⟩
theorem lw_p56 : lw_okq (⟨"MarbleRunModel", "readPiece", "()V"⟩, 32) := ⟨⟨by decide +kernel, by decide +kernel⟩, List.mem_of_getElem? (i := 888) (by decide +kernel), List.mem_of_getElem? (i := 1069) (by decide +kernel), List.mem_of_getElem? (i := 1070) (by decide +kernel)⟩
theorem lw_p57 : lw_okq (⟨"MarbleRunModel", "isNone", "()Z"⟩, 32) := ⟨⟨by decide +kernel, by decide +kernel⟩, List.mem_of_getElem? (i := 888) (by decide +kernel), List.mem_of_getElem? (i := 1093) (by decide +kernel), List.mem_of_getElem? (i := 1094) (by decide +kernel)⟩
theorem lw_p58 : lw_okq (⟨"MarbleRunModel", "notes", "()V"⟩, 32) := ⟨⟨by decide +kernel, by decide +kernel⟩, List.mem_of_getElem? (i := 888) (by decide +kernel), List.mem_of_getElem? (i := 1097) (by decide +kernel), List.mem_of_getElem? (i := 1098) (by decide +kernel)⟩
theorem lw_p59 : lw_okq (⟨"MarbleRunModel", "tickOn", "([I)V"⟩, 32) := ⟨⟨by decide +kernel, by decide +kernel⟩, List.mem_of_getElem? (i := 888) (by decide +kernel), List.mem_of_getElem? (i := 1101) (by decide +kernel), List.mem_of_getElem? (i := 1102) (by decide +kernel)⟩
theorem lw_p60 : lw_okq (⟨"MarbleRunModel", "leaves", "([II)V"⟩, 32) := ⟨⟨by decide +kernel, by decide +kernel⟩, List.mem_of_getElem? (i := 888) (by decide +kernel), List.mem_of_getElem? (i := 1105) (by decide +kernel), List.mem_of_getElem? (i := 1106) (by decide +kernel)⟩
theorem lw_p61 : lw_okq (⟨"MarbleRunModel", "sends", "([III)V"⟩, 32) := ⟨⟨by decide +kernel, by decide +kernel⟩, List.mem_of_getElem? (i := 888) (by decide +kernel), List.mem_of_getElem? (i := 1109) (by decide +kernel), List.mem_of_getElem? (i := 1110) (by decide +kernel)⟩
theorem lw_p62 : lw_okq (⟨"MarbleRunModel", "those", "([III)I"⟩, 32) := ⟨⟨by decide +kernel, by decide +kernel⟩, List.mem_of_getElem? (i := 888) (by decide +kernel), List.mem_of_getElem? (i := 1113) (by decide +kernel), List.mem_of_getElem? (i := 1114) (by decide +kernel)⟩
theorem lw_p63 : lw_okq (⟨"MarbleRunModel", "isPiece", "(I)Z"⟩, 32) := ⟨⟨by decide +kernel, by decide +kernel⟩, List.mem_of_getElem? (i := 888) (by decide +kernel), List.mem_of_getElem? (i := 1121) (by decide +kernel), List.mem_of_getElem? (i := 1122) (by decide +kernel)⟩
def lw_privs_4 : List (MethodName × Nat) := [(⟨"MarbleRunModel", "finds", "(I)I"⟩, 32), (⟨"MarbleRunModel", "readRun", "()V"⟩, 32), (⟨"MarbleRunModel", "sign", "(I)V"⟩, 32), (⟨"MarbleRunModel", "here", "()I"⟩, 32), (⟨"MarbleRunModel", "fails", "(I)V"⟩, 32), (⟨"MarbleRunModel", "number", "(II)I"⟩, 32), (⟨"MarbleRunModel", "figures", "()I"⟩, 32), (⟨"MarbleRunModel", "readMarble", "()V"⟩, 32), (⟨"MarbleRunModel", "readPiece", "()V"⟩, 32), (⟨"MarbleRunModel", "isNone", "()Z"⟩, 32), (⟨"MarbleRunModel", "notes", "()V"⟩, 32), (⟨"MarbleRunModel", "tickOn", "([I)V"⟩, 32), (⟨"MarbleRunModel", "leaves", "([II)V"⟩, 32), (⟨"MarbleRunModel", "sends", "([III)V"⟩, 32), (⟨"MarbleRunModel", "those", "([III)I"⟩, 32), (⟨"MarbleRunModel", "isPiece", "(I)Z"⟩, 32)]
theorem lw_r4 : ∀ q ∈ lw_privs_4, lw_okq q := List.forall_mem_cons.mpr ⟨lw_p48, List.forall_mem_cons.mpr ⟨lw_p49, List.forall_mem_cons.mpr ⟨lw_p50, List.forall_mem_cons.mpr ⟨lw_p51, List.forall_mem_cons.mpr ⟨lw_p52, List.forall_mem_cons.mpr ⟨lw_p53, List.forall_mem_cons.mpr ⟨lw_p54, List.forall_mem_cons.mpr ⟨lw_p55, List.forall_mem_cons.mpr ⟨lw_p56, List.forall_mem_cons.mpr ⟨lw_p57, List.forall_mem_cons.mpr ⟨lw_p58, List.forall_mem_cons.mpr ⟨lw_p59, List.forall_mem_cons.mpr ⟨lw_p60, List.forall_mem_cons.mpr ⟨lw_p61, List.forall_mem_cons.mpr ⟨lw_p62, List.forall_mem_cons.mpr ⟨lw_p63, fun _ h => absurd h List.not_mem_nil⟩⟩⟩⟩⟩⟩⟩⟩⟩⟩⟩⟩⟩⟩⟩⟩
theorem lw_p64 : lw_okq (⟨"MarbleRunModel", "isMarble", "(I)Z"⟩, 32) := ⟨⟨by decide +kernel, by decide +kernel⟩, List.mem_of_getElem? (i := 888) (by decide +kernel), List.mem_of_getElem? (i := 1133) (by decide +kernel), List.mem_of_getElem? (i := 1134) (by decide +kernel)⟩
theorem lw_p65 : lw_okq (⟨"MarbleRunModel", "isInTray", "([II)Z"⟩, 32) := ⟨⟨by decide +kernel, by decide +kernel⟩, List.mem_of_getElem? (i := 888) (by decide +kernel), List.mem_of_getElem? (i := 1137) (by decide +kernel), List.mem_of_getElem? (i := 1138) (by decide +kernel)⟩
theorem lw_p66 : lw_okq (⟨"MarbleRunModel", "asItIs", "()V"⟩, 32) := ⟨⟨by decide +kernel, by decide +kernel⟩, List.mem_of_getElem? (i := 888) (by decide +kernel), List.mem_of_getElem? (i := 1160) (by decide +kernel), List.mem_of_getElem? (i := 1161) (by decide +kernel)⟩
theorem lw_p67 : lw_okq (⟨"MarbleRunModel", "goes", "(I)V"⟩, 32) := ⟨⟨by decide +kernel, by decide +kernel⟩, List.mem_of_getElem? (i := 888) (by decide +kernel), List.mem_of_getElem? (i := 1164) (by decide +kernel), List.mem_of_getElem? (i := 1165) (by decide +kernel)⟩
theorem lw_p68 : lw_okq (⟨"MarbleRunModel", "leftOf", "()I"⟩, 32) := ⟨⟨by decide +kernel, by decide +kernel⟩, List.mem_of_getElem? (i := 888) (by decide +kernel), List.mem_of_getElem? (i := 1176) (by decide +kernel), List.mem_of_getElem? (i := 1177) (by decide +kernel)⟩
theorem lw_p69 : lw_okq (⟨"MarbleRunModel", "rightOf", "()I"⟩, 32) := ⟨⟨by decide +kernel, by decide +kernel⟩, List.mem_of_getElem? (i := 888) (by decide +kernel), List.mem_of_getElem? (i := 1180) (by decide +kernel), List.mem_of_getElem? (i := 1181) (by decide +kernel)⟩
theorem lw_p70 : lw_okq (⟨"MarbleRunModel", "tipsNow", "(I)V"⟩, 32) := ⟨⟨by decide +kernel, by decide +kernel⟩, List.mem_of_getElem? (i := 888) (by decide +kernel), List.mem_of_getElem? (i := 1196) (by decide +kernel), List.mem_of_getElem? (i := 1197) (by decide +kernel)⟩
theorem lw_p71 : lw_okq (⟨"MarbleRunModel", "nextOrder", "()Z"⟩, 32) := ⟨⟨by decide +kernel, by decide +kernel⟩, List.mem_of_getElem? (i := 888) (by decide +kernel), List.mem_of_getElem? (i := 1207) (by decide +kernel), List.mem_of_getElem? (i := 1208) (by decide +kernel)⟩
theorem lw_p72 : lw_okq (⟨"MarbleRunModel", "weightOf", "(I)I"⟩, 32) := ⟨⟨by decide +kernel, by decide +kernel⟩, List.mem_of_getElem? (i := 888) (by decide +kernel), List.mem_of_getElem? (i := 1219) (by decide +kernel), List.mem_of_getElem? (i := 1220) (by decide +kernel)⟩
theorem lw_p73 : lw_okq (⟨"MarbleRunModel", "wentOfAll", "()I"⟩, 32) := ⟨⟨by decide +kernel, by decide +kernel⟩, List.mem_of_getElem? (i := 888) (by decide +kernel), List.mem_of_getElem? (i := 1227) (by decide +kernel), List.mem_of_getElem? (i := 1228) (by decide +kernel)⟩
theorem lw_p74 : lw_okq (⟨"MarbleRunModel", "chosen", "(IZ)I"⟩, 32) := ⟨⟨by decide +kernel, by decide +kernel⟩, List.mem_of_getElem? (i := 888) (by decide +kernel), List.mem_of_getElem? (i := 1235) (by decide +kernel), List.mem_of_getElem? (i := 1236) (by decide +kernel)⟩
theorem lw_p75 : lw_okq (⟨"MarbleRunModel", "refuses", "(III)I"⟩, 32) := ⟨⟨by decide +kernel, by decide +kernel⟩, List.mem_of_getElem? (i := 888) (by decide +kernel), List.mem_of_getElem? (i := 1243) (by decide +kernel), List.mem_of_getElem? (i := 1244) (by decide +kernel)⟩
theorem lw_p76 : lw_okq (⟨"MarbleRunModel", "isSo", "(II)Z"⟩, 32) := ⟨⟨by decide +kernel, by decide +kernel⟩, List.mem_of_getElem? (i := 888) (by decide +kernel), List.mem_of_getElem? (i := 1247) (by decide +kernel), List.mem_of_getElem? (i := 1248) (by decide +kernel)⟩
theorem lw_p77 : lw_okq (⟨"MarbleRunModel", "isA", "(II)Z"⟩, 32) := ⟨⟨by decide +kernel, by decide +kernel⟩, List.mem_of_getElem? (i := 888) (by decide +kernel), List.mem_of_getElem? (i := 1288) (by decide +kernel), List.mem_of_getElem? (i := 1289) (by decide +kernel)⟩
theorem lw_p78 : lw_okq (⟨"MarbleRunModel", "gateSize", "(I)I"⟩, 32) := ⟨⟨by decide +kernel, by decide +kernel⟩, List.mem_of_getElem? (i := 888) (by decide +kernel), List.mem_of_getElem? (i := 1296) (by decide +kernel), List.mem_of_getElem? (i := 1297) (by decide +kernel)⟩
theorem lw_p79 : lw_okq (⟨"MarbleRunModel", "begins", "(I)V"⟩, 32) := ⟨⟨by decide +kernel, by decide +kernel⟩, List.mem_of_getElem? (i := 888) (by decide +kernel), List.mem_of_getElem? (i := 1300) (by decide +kernel), List.mem_of_getElem? (i := 1301) (by decide +kernel)⟩
def lw_privs_5 : List (MethodName × Nat) := [(⟨"MarbleRunModel", "isMarble", "(I)Z"⟩, 32), (⟨"MarbleRunModel", "isInTray", "([II)Z"⟩, 32), (⟨"MarbleRunModel", "asItIs", "()V"⟩, 32), (⟨"MarbleRunModel", "goes", "(I)V"⟩, 32), (⟨"MarbleRunModel", "leftOf", "()I"⟩, 32), (⟨"MarbleRunModel", "rightOf", "()I"⟩, 32), (⟨"MarbleRunModel", "tipsNow", "(I)V"⟩, 32), (⟨"MarbleRunModel", "nextOrder", "()Z"⟩, 32), (⟨"MarbleRunModel", "weightOf", "(I)I"⟩, 32), (⟨"MarbleRunModel", "wentOfAll", "()I"⟩, 32), (⟨"MarbleRunModel", "chosen", "(IZ)I"⟩, 32), (⟨"MarbleRunModel", "refuses", "(III)I"⟩, 32), (⟨"MarbleRunModel", "isSo", "(II)Z"⟩, 32), (⟨"MarbleRunModel", "isA", "(II)Z"⟩, 32), (⟨"MarbleRunModel", "gateSize", "(I)I"⟩, 32), (⟨"MarbleRunModel", "begins", "(I)V"⟩, 32)]
theorem lw_r5 : ∀ q ∈ lw_privs_5, lw_okq q := List.forall_mem_cons.mpr ⟨lw_p64, List.forall_mem_cons.mpr ⟨lw_p65, List.forall_mem_cons.mpr ⟨lw_p66, List.forall_mem_cons.mpr ⟨lw_p67, List.forall_mem_cons.mpr ⟨lw_p68, List.forall_mem_cons.mpr ⟨lw_p69, List.forall_mem_cons.mpr ⟨lw_p70, List.forall_mem_cons.mpr ⟨lw_p71, List.forall_mem_cons.mpr ⟨lw_p72, List.forall_mem_cons.mpr ⟨lw_p73, List.forall_mem_cons.mpr ⟨lw_p74, List.forall_mem_cons.mpr ⟨lw_p75, List.forall_mem_cons.mpr ⟨lw_p76, List.forall_mem_cons.mpr ⟨lw_p77, List.forall_mem_cons.mpr ⟨lw_p78, List.forall_mem_cons.mpr ⟨lw_p79, fun _ h => absurd h List.not_mem_nil⟩⟩⟩⟩⟩⟩⟩⟩⟩⟩⟩⟩⟩⟩⟩⟩
theorem lw_p80 : lw_okq (⟨"MarbleRunModel", "ten", "(I)I"⟩, 32) := ⟨⟨by decide +kernel, by decide +kernel⟩, List.mem_of_getElem? (i := 888) (by decide +kernel), List.mem_of_getElem? (i := 1304) (by decide +kernel), List.mem_of_getElem? (i := 1305) (by decide +kernel)⟩
theorem lw_p81 : lw_okq (⟨"MarbleRunModel", "gateMark", "(I)I"⟩, 32) := ⟨⟨by decide +kernel, by decide +kernel⟩, List.mem_of_getElem? (i := 888) (by decide +kernel), List.mem_of_getElem? (i := 1308) (by decide +kernel), List.mem_of_getElem? (i := 1309) (by decide +kernel)⟩
theorem lw_p82 : lw_okq (⟨"MarbleRunModel", "twentyOne", "(I)I"⟩, 32) := ⟨⟨by decide +kernel, by decide +kernel⟩, List.mem_of_getElem? (i := 888) (by decide +kernel), List.mem_of_getElem? (i := 1312) (by decide +kernel), List.mem_of_getElem? (i := 1313) (by decide +kernel)⟩
theorem lw_p83 : lw_okq (⟨"MarbleRunModel", "twenty", "(I)I"⟩, 32) := ⟨⟨by decide +kernel, by decide +kernel⟩, List.mem_of_getElem? (i := 888) (by decide +kernel), List.mem_of_getElem? (i := 1316) (by decide +kernel), List.mem_of_getElem? (i := 1317) (by decide +kernel)⟩
theorem lw_p84 : lw_okq (⟨"MarbleRunModel", "sillSize", "(I)I"⟩, 32) := ⟨⟨by decide +kernel, by decide +kernel⟩, List.mem_of_getElem? (i := 888) (by decide +kernel), List.mem_of_getElem? (i := 1320) (by decide +kernel), List.mem_of_getElem? (i := 1321) (by decide +kernel)⟩
theorem lw_p85 : lw_okq (⟨"MarbleRunModel", "sillMark", "(I)I"⟩, 32) := ⟨⟨by decide +kernel, by decide +kernel⟩, List.mem_of_getElem? (i := 888) (by decide +kernel), List.mem_of_getElem? (i := 1324) (by decide +kernel), List.mem_of_getElem? (i := 1325) (by decide +kernel)⟩
theorem lw_p86 : lw_okq (⟨"MarbleRunModel", "rowsThere", "()I"⟩, 32) := ⟨⟨by decide +kernel, by decide +kernel⟩, List.mem_of_getElem? (i := 888) (by decide +kernel), List.mem_of_getElem? (i := 1336) (by decide +kernel), List.mem_of_getElem? (i := 1337) (by decide +kernel)⟩
def lw_privs_6 : List (MethodName × Nat) := [(⟨"MarbleRunModel", "ten", "(I)I"⟩, 32), (⟨"MarbleRunModel", "gateMark", "(I)I"⟩, 32), (⟨"MarbleRunModel", "twentyOne", "(I)I"⟩, 32), (⟨"MarbleRunModel", "twenty", "(I)I"⟩, 32), (⟨"MarbleRunModel", "sillSize", "(I)I"⟩, 32), (⟨"MarbleRunModel", "sillMark", "(I)I"⟩, 32), (⟨"MarbleRunModel", "rowsThere", "()I"⟩, 32)]
theorem lw_r6 : ∀ q ∈ lw_privs_6, lw_okq q := List.forall_mem_cons.mpr ⟨lw_p80, List.forall_mem_cons.mpr ⟨lw_p81, List.forall_mem_cons.mpr ⟨lw_p82, List.forall_mem_cons.mpr ⟨lw_p83, List.forall_mem_cons.mpr ⟨lw_p84, List.forall_mem_cons.mpr ⟨lw_p85, List.forall_mem_cons.mpr ⟨lw_p86, fun _ h => absurd h List.not_mem_nil⟩⟩⟩⟩⟩⟩⟩
def lw_privs : List (MethodName × Nat) := lw_privs_1 ++ (lw_privs_2 ++ (lw_privs_3 ++ (lw_privs_4 ++ (lw_privs_5 ++ (lw_privs_6)))))
def lw_tbl : List Cond := k2_sels lw_privs ++ tables_1
theorem lw_privs_ok : ∀ q ∈ lw_privs, lw_okq q := by
  show ∀ q ∈ lw_privs_1 ++ (lw_privs_2 ++ (lw_privs_3 ++ (lw_privs_4 ++ (lw_privs_5 ++ (lw_privs_6))))), lw_okq q
  exact List.forall_mem_append.mpr ⟨lw_r1, List.forall_mem_append.mpr ⟨lw_r2, List.forall_mem_append.mpr ⟨lw_r3, List.forall_mem_append.mpr ⟨lw_r4, List.forall_mem_append.mpr ⟨lw_r5, lw_r6⟩⟩⟩⟩⟩
end
section
def RX0 : String := "MarbleRun$Acts"
def TX0 : u_T := fun k => match k with
  | 0 => ("MarbleRun$Acts", "before", "[LMarbleRun$Track;", true)
  | 1 => ("MarbleRun$Acts", "next", "I", false)
  | _ => ("MarbleRun$Acts", "many", "I", false)
def tyX0 : Nat → FieldType := fun k => match k with
  | 0 => .array (.object "MarbleRun$Track")
  | 1 => .int
  | _ => .int
theorem nmX0 : ∀ a, a < 3 → ∀ b, b < 3 → a ≠ b → (TX0 a).2.1 ≠ (TX0 b).2.1 := by decide +kernel
theorem tyX0_ok : ∀ k, k < 3 → parseFieldDescriptor (TX0 k).2.2.1 = some (tyX0 k) := by decide +kernel
abbrev cX0_init : ByteArray := prog_2_method_1_code
def yX0_init : MethodName := ⟨RX0, "<init>", "()V"⟩
abbrev cX0_kept : ByteArray := prog_2_method_2_code
def yX0_kept : MethodName := ⟨RX0, "kept", "()I"⟩
abbrev cX0_forget : ByteArray := prog_2_method_3_code
def yX0_forget : MethodName := ⟨RX0, "forget", "()V"⟩
abbrev cX0_keep : ByteArray := prog_2_method_4_code
def yX0_keep : MethodName := ⟨RX0, "keep", "(LMarbleRun$Track;)V"⟩
abbrev cX0_takeBack : ByteArray := prog_2_method_5_code
def yX0_takeBack : MethodName := ⟨RX0, "takeBack", "(LMarbleRun$Track;)Z"⟩
def RX1 : String := "MarbleRun$Asker"
def TX1 : u_T := fun k => match k with
  | 0 => ("MarbleRun$Asker", "traced", "[I", true)
  | _ => ("MarbleRun$Asker", "many", "I", false)
def tyX1 : Nat → FieldType := fun k => match k with
  | 0 => .array .int
  | _ => .int
theorem nmX1 : ∀ a, a < 2 → ∀ b, b < 2 → a ≠ b → (TX1 a).2.1 ≠ (TX1 b).2.1 := by decide +kernel
theorem tyX1_ok : ∀ k, k < 2 → parseFieldDescriptor (TX1 k).2.2.1 = some (tyX1 k) := by decide +kernel
abbrev cX1_init : ByteArray := prog_3_method_1_code
def yX1_init : MethodName := ⟨RX1, "<init>", "()V"⟩
abbrev cX1_isOfKind : ByteArray := prog_3_method_2_code
def yX1_isOfKind : MethodName := ⟨RX1, "isOfKind", "(II)Z"⟩
abbrev cX1_traceAt : ByteArray := prog_3_method_3_code
def yX1_traceAt : MethodName := ⟨RX1, "traceAt", "(I)I"⟩
abbrev cX1_emptyTrace : ByteArray := prog_3_method_4_code
def yX1_emptyTrace : MethodName := ⟨RX1, "emptyTrace", "()V"⟩
abbrev cX1_begin : ByteArray := prog_3_method_5_code
def yX1_begin : MethodName := ⟨RX1, "begin", "(I)V"⟩
abbrev cX1_size : ByteArray := prog_3_method_6_code
def yX1_size : MethodName := ⟨RX1, "size", "(LMarbleRun$Track;I)I"⟩
abbrev cX1_mark : ByteArray := prog_3_method_7_code
def yX1_mark : MethodName := ⟨RX1, "mark", "(LMarbleRun$Track;I)I"⟩
abbrev cX1_body10 : ByteArray := prog_3_method_8_code
def yX1_body10 : MethodName := ⟨RX1, "body10", "(LMarbleRun$Track;I)I"⟩
abbrev cX1_body11 : ByteArray := prog_3_method_9_code
def yX1_body11 : MethodName := ⟨RX1, "body11", "(LMarbleRun$Track;I)I"⟩
abbrev cX1_body12 : ByteArray := prog_3_method_10_code
def yX1_body12 : MethodName := ⟨RX1, "body12", "(LMarbleRun$Track;I)I"⟩
abbrev cX1_body13 : ByteArray := prog_3_method_11_code
def yX1_body13 : MethodName := ⟨RX1, "body13", "(LMarbleRun$Track;I)I"⟩
abbrev cX1_body14 : ByteArray := prog_3_method_12_code
def yX1_body14 : MethodName := ⟨RX1, "body14", "(LMarbleRun$Track;I)I"⟩
abbrev cX1_body20 : ByteArray := prog_3_method_13_code
def yX1_body20 : MethodName := ⟨RX1, "body20", "(LMarbleRun$Track;I)I"⟩
abbrev cX1_body21 : ByteArray := prog_3_method_14_code
def yX1_body21 : MethodName := ⟨RX1, "body21", "(LMarbleRun$Track;I)I"⟩
abbrev cX1_body22 : ByteArray := prog_3_method_15_code
def yX1_body22 : MethodName := ⟨RX1, "body22", "(LMarbleRun$Track;I)I"⟩
abbrev cX1_body23 : ByteArray := prog_3_method_16_code
def yX1_body23 : MethodName := ⟨RX1, "body23", "(LMarbleRun$Track;I)I"⟩
abbrev cX1_body24 : ByteArray := prog_3_method_17_code
def yX1_body24 : MethodName := ⟨RX1, "body24", "(LMarbleRun$Track;I)I"⟩
def RX2 : String := "MarbleRun$Rows"
def TX2 : u_T := fun k => match k with
  | 0 => ("MarbleRun$Rows", "items", "[[I", true)
  | 1 => ("MarbleRun$Rows", "lanes", "[I", true)
  | _ => ("MarbleRun$Rows", "lengths", "[I", true)
def tyX2 : Nat → FieldType := fun k => match k with
  | 0 => .array (.array .int)
  | 1 => .array .int
  | _ => .array .int
theorem nmX2 : ∀ a, a < 3 → ∀ b, b < 3 → a ≠ b → (TX2 a).2.1 ≠ (TX2 b).2.1 := by decide +kernel
theorem tyX2_ok : ∀ k, k < 3 → parseFieldDescriptor (TX2 k).2.2.1 = some (tyX2 k) := by decide +kernel
abbrev cX2_init : ByteArray := prog_4_method_1_code
def yX2_init : MethodName := ⟨RX2, "<init>", "()V"⟩
abbrev cX2_isMissing : ByteArray := prog_4_method_2_code
def yX2_isMissing : MethodName := ⟨RX2, "isMissing", "(I)Z"⟩
abbrev cX2_laneOf : ByteArray := prog_4_method_3_code
def yX2_laneOf : MethodName := ⟨RX2, "laneOf", "(I)I"⟩
abbrev cX2_itemsOf : ByteArray := prog_4_method_4_code
def yX2_itemsOf : MethodName := ⟨RX2, "itemsOf", "(I)[I"⟩
abbrev cX2_has : ByteArray := prog_4_method_5_code
def yX2_has : MethodName := ⟨RX2, "has", "(III)Z"⟩
abbrev cX2_make : ByteArray := prog_4_method_6_code
def yX2_make : MethodName := ⟨RX2, "make", "(III)V"⟩
abbrev cX2_put : ByteArray := prog_4_method_7_code
def yX2_put : MethodName := ⟨RX2, "put", "(III)I"⟩
abbrev cX2_move : ByteArray := prog_4_method_8_code
def yX2_move : MethodName := ⟨RX2, "move", "(IIIII)V"⟩
abbrev cX2_remove : ByteArray := prog_4_method_9_code
def yX2_remove : MethodName := ⟨RX2, "remove", "(I)I"⟩
abbrev cX2_present : ByteArray := prog_4_method_10_code
def yX2_present : MethodName := ⟨RX2, "present", "()I"⟩
def RX3 : String := "MarbleRun$Seer"
def TX3 : u_T := fun k => match k with
  | 0 => ("MarbleRun$Seer", "look", "LMarbleRun$Track;", true)
  | 1 => ("MarbleRun$Seer", "worths", "[I", true)
  | 2 => ("MarbleRun$Seer", "worthsAhead", "[I", true)
  | 3 => ("MarbleRun$Seer", "tried", "[I", true)
  | 4 => ("MarbleRun$Seer", "best", "[I", true)
  | 5 => ("MarbleRun$Seer", "seen", "[I", false)
  | 6 => ("MarbleRun$Seer", "seenFrom", "I", false)
  | 7 => ("MarbleRun$Seer", "seenTicks", "I", false)
  | 8 => ("MarbleRun$Seer", "most", "I", false)
  | _ => ("MarbleRun$Seer", "chosen", "I", false)
def tyX3 : Nat → FieldType := fun k => match k with
  | 0 => .object "MarbleRun$Track"
  | 1 => .array .int
  | 2 => .array .int
  | 3 => .array .int
  | 4 => .array .int
  | 5 => .array .int
  | 6 => .int
  | 7 => .int
  | 8 => .int
  | _ => .int
theorem nmX3 : ∀ a, a < 10 → ∀ b, b < 10 → a ≠ b → (TX3 a).2.1 ≠ (TX3 b).2.1 := by decide +kernel
theorem tyX3_ok : ∀ k, k < 10 → parseFieldDescriptor (TX3 k).2.2.1 = some (tyX3 k) := by decide +kernel
abbrev cX3_init : ByteArray := prog_5_method_1_code
def yX3_init : MethodName := ⟨RX3, "<init>", "()V"⟩
abbrev cX3_most : ByteArray := prog_5_method_2_code
def yX3_most : MethodName := ⟨RX3, "most", "()I"⟩
abbrev cX3_chosen : ByteArray := prog_5_method_3_code
def yX3_chosen : MethodName := ⟨RX3, "chosen", "()I"⟩
abbrev cX3_chosenAt : ByteArray := prog_5_method_4_code
def yX3_chosenAt : MethodName := ⟨RX3, "chosenAt", "(I)I"⟩
abbrev cX3_behind : ByteArray := prog_5_method_5_code
def yX3_behind : MethodName := ⟨RX3, "behind", "(LMarbleRun$Track;I)LMarbleRun$Track;"⟩
abbrev cX3_goOn : ByteArray := prog_5_method_6_code
def yX3_goOn : MethodName := ⟨RX3, "goOn", "(I)V"⟩
abbrev cX3_ticksToTray : ByteArray := prog_5_method_7_code
def yX3_ticksToTray : MethodName := ⟨RX3, "ticksToTray", "(LMarbleRun$Track;II)I"⟩
abbrev cX3_ticksToRest : ByteArray := prog_5_method_8_code
def yX3_ticksToRest : MethodName := ⟨RX3, "ticksToRest", "(LMarbleRun$Track;I)I"⟩
abbrev cX3_chooseTips : ByteArray := prog_5_method_9_code
def yX3_chooseTips : MethodName := ⟨RX3, "chooseTips", "(LMarbleRun$Track;I)V"⟩
abbrev cX3_preferTips : ByteArray := prog_5_method_10_code
def yX3_preferTips : MethodName := ⟨RX3, "preferTips", "(II)V"⟩
abbrev cX3_chooseLead : ByteArray := prog_5_method_11_code
def yX3_chooseLead : MethodName := ⟨RX3, "chooseLead", "(LMarbleRun$Track;II)V"⟩
abbrev cX3_chooseOrder : ByteArray := prog_5_method_12_code
def yX3_chooseOrder : MethodName := ⟨RX3, "chooseOrder", "(LMarbleRun$Track;I)V"⟩
abbrev cX3_tryOrder : ByteArray := prog_5_method_13_code
def yX3_tryOrder : MethodName := ⟨RX3, "tryOrder", "(LMarbleRun$Track;I)V"⟩
abbrev cX3_isFirstOfAlike : ByteArray := prog_5_method_14_code
def yX3_isFirstOfAlike : MethodName := ⟨RX3, "isFirstOfAlike", "(LMarbleRun$Track;)Z"⟩
abbrev cX3_stepToNextOrder : ByteArray := prog_5_method_15_code
def yX3_stepToNextOrder : MethodName := ⟨RX3, "stepToNextOrder", "(I)Z"⟩
abbrev cX3_swapTried : ByteArray := prog_5_method_16_code
def yX3_swapTried : MethodName := ⟨RX3, "swapTried", "(II)V"⟩
abbrev cX3_playTurns : ByteArray := prog_5_method_17_code
def yX3_playTurns : MethodName := ⟨RX3, "playTurns", "(LMarbleRun$Track;II)I"⟩
abbrev cX3_weighSets : ByteArray := prog_5_method_18_code
def yX3_weighSets : MethodName := ⟨RX3, "weighSets", "(LMarbleRun$Track;III)V"⟩
abbrev cX3_playTurn : ByteArray := prog_5_method_19_code
def yX3_playTurn : MethodName := ⟨RX3, "playTurn", "(III)V"⟩
abbrev cX3_watch : ByteArray := prog_5_method_20_code
def yX3_watch : MethodName := ⟨RX3, "watch", "([III)V"⟩
abbrev cX3_fits : ByteArray := prog_5_method_21_code
def yX3_fits : MethodName := ⟨RX3, "fits", "()Z"⟩
abbrev cX3_bitIfFit : ByteArray := prog_5_method_22_code
def yX3_bitIfFit : MethodName := ⟨RX3, "bitIfFit", "(I)I"⟩
abbrev cX3_kindsThatFit : ByteArray := prog_5_method_23_code
def yX3_kindsThatFit : MethodName := ⟨RX3, "kindsThatFit", "(LMarbleRun$Track;I)I"⟩
abbrev cX3_pointsThatFit : ByteArray := prog_5_method_24_code
def yX3_pointsThatFit : MethodName := ⟨RX3, "pointsThatFit", "(LMarbleRun$Track;I)I"⟩
abbrev cX3_weightsThatFit : ByteArray := prog_5_method_25_code
def yX3_weightsThatFit : MethodName := ⟨RX3, "weightsThatFit", "(LMarbleRun$Track;I)I"⟩
abbrev cX3_barsThatFit : ByteArray := prog_5_method_26_code
def yX3_barsThatFit : MethodName := ⟨RX3, "barsThatFit", "(LMarbleRun$Track;)I"⟩
abbrev cX3_jamCases : ByteArray := prog_5_method_27_code
def yX3_jamCases : MethodName := ⟨RX3, "jamCases", "(LMarbleRun$Track;III)J"⟩
abbrev cX3_cameByDraws : ByteArray := prog_5_method_28_code
def yX3_cameByDraws : MethodName := ⟨RX3, "cameByDraws", "(LMarbleRun$Track;III)I"⟩
abbrev cX3_disturb : ByteArray := prog_5_method_29_code
def yX3_disturb : MethodName := ⟨RX3, "disturb", "(I)V"⟩
def RX4 : String := "MarbleRun$Tape"
def TX4 : u_T := fun k => match k with
  | 0 => ("MarbleRun$Tape", "bytes", "[I", true)
  | 1 => ("MarbleRun$Tape", "size", "I", false)
  | 2 => ("MarbleRun$Tape", "at", "I", false)
  | 3 => ("MarbleRun$Tape", "value", "I", false)
  | _ => ("MarbleRun$Tape", "fault", "I", false)
def tyX4 : Nat → FieldType := fun k => match k with
  | 0 => .array .int
  | 1 => .int
  | 2 => .int
  | 3 => .int
  | _ => .int
theorem nmX4 : ∀ a, a < 5 → ∀ b, b < 5 → a ≠ b → (TX4 a).2.1 ≠ (TX4 b).2.1 := by decide +kernel
theorem tyX4_ok : ∀ k, k < 5 → parseFieldDescriptor (TX4 k).2.2.1 = some (tyX4 k) := by decide +kernel
abbrev cX4_init : ByteArray := prog_6_method_1_code
def yX4_init : MethodName := ⟨RX4, "<init>", "()V"⟩
abbrev cX4_add : ByteArray := prog_6_method_2_code
def yX4_add : MethodName := ⟨RX4, "add", "(I)Z"⟩
abbrev cX4_length : ByteArray := prog_6_method_3_code
def yX4_length : MethodName := ⟨RX4, "length", "()I"⟩
abbrev cX4_clear : ByteArray := prog_6_method_4_code
def yX4_clear : MethodName := ⟨RX4, "clear", "()V"⟩
abbrev cX4_faultNumber : ByteArray := prog_6_method_5_code
def yX4_faultNumber : MethodName := ⟨RX4, "faultNumber", "()I"⟩
abbrev cX4_faultPlace : ByteArray := prog_6_method_6_code
def yX4_faultPlace : MethodName := ⟨RX4, "faultPlace", "()I"⟩
abbrev cX4_readInto : ByteArray := prog_6_method_7_code
def yX4_readInto : MethodName := ⟨RX4, "readInto", "(LMarbleRun$Track;)Z"⟩
abbrev cX4_readLaw : ByteArray := prog_6_method_8_code
def yX4_readLaw : MethodName := ⟨RX4, "readLaw", "(LMarbleRun$Track;)Z"⟩
abbrev cX4_readMarbles : ByteArray := prog_6_method_9_code
def yX4_readMarbles : MethodName := ⟨RX4, "readMarbles", "(LMarbleRun$Track;)Z"⟩
abbrev cX4_readMarble : ByteArray := prog_6_method_10_code
def yX4_readMarble : MethodName := ⟨RX4, "readMarble", "(LMarbleRun$Track;I)Z"⟩
abbrev cX4_readPieces : ByteArray := prog_6_method_11_code
def yX4_readPieces : MethodName := ⟨RX4, "readPieces", "(LMarbleRun$Track;)Z"⟩
abbrev cX4_readPiece : ByteArray := prog_6_method_12_code
def yX4_readPiece : MethodName := ⟨RX4, "readPiece", "(LMarbleRun$Track;I)Z"⟩
abbrev cX4_sortOf : ByteArray := prog_6_method_13_code
def yX4_sortOf : MethodName := ⟨RX4, "sortOf", "(I)I"⟩
abbrev cX4_byteAt : ByteArray := prog_6_method_14_code
def yX4_byteAt : MethodName := ⟨RX4, "byteAt", "(I)I"⟩
abbrev cX4_next : ByteArray := prog_6_method_15_code
def yX4_next : MethodName := ⟨RX4, "next", "()I"⟩
abbrev cX4_isFigureAt : ByteArray := prog_6_method_16_code
def yX4_isFigureAt : MethodName := ⟨RX4, "isFigureAt", "(I)Z"⟩
abbrev cX4_fails : ByteArray := prog_6_method_17_code
def yX4_fails : MethodName := ⟨RX4, "fails", "(I)Z"⟩
abbrev cX4_take : ByteArray := prog_6_method_18_code
def yX4_take : MethodName := ⟨RX4, "take", "(I)Z"⟩
abbrev cX4_takeNumber : ByteArray := prog_6_method_19_code
def yX4_takeNumber : MethodName := ⟨RX4, "takeNumber", "(II)Z"⟩
def RX5 : String := "MarbleRun$Track"
def TX5 : u_T := fun k => match k with
  | 0 => ("MarbleRun$Track", "bar", "I", false)
  | 1 => ("MarbleRun$Track", "tick", "I", false)
  | 2 => ("MarbleRun$Track", "marbles", "I", false)
  | 3 => ("MarbleRun$Track", "pieces", "I", false)
  | 4 => ("MarbleRun$Track", "jammed", "I", false)
  | 5 => ("MarbleRun$Track", "weight", "[I", true)
  | 6 => ("MarbleRun$Track", "start", "[I", true)
  | 7 => ("MarbleRun$Track", "place", "[I", true)
  | 8 => ("MarbleRun$Track", "sort", "[I", true)
  | 9 => ("MarbleRun$Track", "point", "[I", true)
  | 10 => ("MarbleRun$Track", "left", "[I", true)
  | 11 => ("MarbleRun$Track", "right", "[I", true)
  | 12 => ("MarbleRun$Track", "holds", "[I", true)
  | 13 => ("MarbleRun$Track", "went", "[I", true)
  | _ => ("MarbleRun$Track", "burden", "[I", true)
def tyX5 : Nat → FieldType := fun k => match k with
  | 0 => .int
  | 1 => .int
  | 2 => .int
  | 3 => .int
  | 4 => .int
  | 5 => .array .int
  | 6 => .array .int
  | 7 => .array .int
  | 8 => .array .int
  | 9 => .array .int
  | 10 => .array .int
  | 11 => .array .int
  | 12 => .array .int
  | 13 => .array .int
  | _ => .array .int
theorem nmX5 : ∀ a, a < 15 → ∀ b, b < 15 → a ≠ b → (TX5 a).2.1 ≠ (TX5 b).2.1 := by decide +kernel
theorem tyX5_ok : ∀ k, k < 15 → parseFieldDescriptor (TX5 k).2.2.1 = some (tyX5 k) := by decide +kernel
abbrev cX5_init : ByteArray := prog_7_method_1_code
def yX5_init : MethodName := ⟨RX5, "<init>", "()V"⟩
abbrev cX5_clear : ByteArray := prog_7_method_2_code
def yX5_clear : MethodName := ⟨RX5, "clear", "()V"⟩
abbrev cX5_becomeLike : ByteArray := prog_7_method_3_code
def yX5_becomeLike : MethodName := ⟨RX5, "becomeLike", "(LMarbleRun$Track;)V"⟩
abbrev cX5_pass : ByteArray := prog_7_method_4_code
def yX5_pass : MethodName := ⟨RX5, "pass", "()V"⟩
abbrev cX5_letIn : ByteArray := prog_7_method_5_code
def yX5_letIn : MethodName := ⟨RX5, "letIn", "()I"⟩
abbrev cX5_leave : ByteArray := prog_7_method_6_code
def yX5_leave : MethodName := ⟨RX5, "leave", "(II)V"⟩
abbrev cX5_hold : ByteArray := prog_7_method_7_code
def yX5_hold : MethodName := ⟨RX5, "hold", "(II)V"⟩
abbrev cX5_send : ByteArray := prog_7_method_8_code
def yX5_send : MethodName := ⟨RX5, "send", "(II)V"⟩
abbrev cX5_swing : ByteArray := prog_7_method_9_code
def yX5_swing : MethodName := ⟨RX5, "swing", "(I)V"⟩
abbrev cX5_throwAnew : ByteArray := prog_7_method_10_code
def yX5_throwAnew : MethodName := ⟨RX5, "throwAnew", "(II)V"⟩
abbrev cX5_isInTray : ByteArray := prog_7_method_11_code
def yX5_isInTray : MethodName := ⟨RX5, "isInTray", "(I)Z"⟩
abbrev cX5_isAstir : ByteArray := prog_7_method_12_code
def yX5_isAstir : MethodName := ⟨RX5, "isAstir", "()Z"⟩
abbrev cX5_bitsBetween : ByteArray := prog_7_method_13_code
def yX5_bitsBetween : MethodName := ⟨RX5, "bitsBetween", "(II)I"⟩
abbrev cX5_bitsAt : ByteArray := prog_7_method_14_code
def yX5_bitsAt : MethodName := ⟨RX5, "bitsAt", "(I)I"⟩
abbrev cX5_bitsRunning : ByteArray := prog_7_method_15_code
def yX5_bitsRunning : MethodName := ⟨RX5, "bitsRunning", "()I"⟩
abbrev cX5_bitsHeld : ByteArray := prog_7_method_16_code
def yX5_bitsHeld : MethodName := ⟨RX5, "bitsHeld", "()I"⟩
abbrev cX5_bitsOutOfTrays : ByteArray := prog_7_method_17_code
def yX5_bitsOutOfTrays : MethodName := ⟨RX5, "bitsOutOfTrays", "()I"⟩
abbrev cX5_manyAt : ByteArray := prog_7_method_18_code
def yX5_manyAt : MethodName := ⟨RX5, "manyAt", "(I)I"⟩
abbrev cX5_weightOf : ByteArray := prog_7_method_19_code
def yX5_weightOf : MethodName := ⟨RX5, "weightOf", "(I)I"⟩
abbrev cX5_wentOfAll : ByteArray := prog_7_method_20_code
def yX5_wentOfAll : MethodName := ⟨RX5, "wentOfAll", "()I"⟩
abbrev cX5_bitsPointed : ByteArray := prog_7_method_21_code
def yX5_bitsPointed : MethodName := ⟨RX5, "bitsPointed", "()I"⟩
abbrev cX5_swingAll : ByteArray := prog_7_method_22_code
def yX5_swingAll : MethodName := ⟨RX5, "swingAll", "(I)V"⟩
def RX6 : String := "MarbleRun"
def TX6 : u_T := fun k => match k with
  | 0 => ("MarbleRun", "rows", "LMarbleRun$Rows;", true)
  | 1 => ("MarbleRun", "tape", "LMarbleRun$Tape;", true)
  | 2 => ("MarbleRun", "now", "LMarbleRun$Track;", true)
  | 3 => ("MarbleRun", "told", "LMarbleRun$Track;", true)
  | 4 => ("MarbleRun", "acts", "LMarbleRun$Acts;", true)
  | 5 => ("MarbleRun", "seer", "LMarbleRun$Seer;", true)
  | 6 => ("MarbleRun", "asker", "LMarbleRun$Asker;", true)
  | 7 => ("MarbleRun", "images", "[LMarbleRun$Track;", true)
  | 8 => ("MarbleRun", "latestFault", "I", false)
  | _ => ("MarbleRun", "latestFinding", "I", false)
def tyX6 : Nat → FieldType := fun k => match k with
  | 0 => .object "MarbleRun$Rows"
  | 1 => .object "MarbleRun$Tape"
  | 2 => .object "MarbleRun$Track"
  | 3 => .object "MarbleRun$Track"
  | 4 => .object "MarbleRun$Acts"
  | 5 => .object "MarbleRun$Seer"
  | 6 => .object "MarbleRun$Asker"
  | 7 => .array (.object "MarbleRun$Track")
  | 8 => .int
  | _ => .int
theorem nmX6 : ∀ a, a < 10 → ∀ b, b < 10 → a ≠ b → (TX6 a).2.1 ≠ (TX6 b).2.1 := by decide +kernel
theorem tyX6_ok : ∀ k, k < 10 → parseFieldDescriptor (TX6 k).2.2.1 = some (tyX6 k) := by decide +kernel
abbrev cX6_init : ByteArray := prog_1_method_1_code
def yX6_init : MethodName := ⟨RX6, "<init>", "()V"⟩
abbrev cX6_row : ByteArray := prog_1_method_2_code
def yX6_row : MethodName := ⟨RX6, "row", "(III)I"⟩
abbrev cX6_set : ByteArray := prog_1_method_3_code
def yX6_set : MethodName := ⟨RX6, "set", "(III)I"⟩
abbrev cX6_copy : ByteArray := prog_1_method_4_code
def yX6_copy : MethodName := ⟨RX6, "copy", "(IIIII)I"⟩
abbrev cX6_drop : ByteArray := prog_1_method_5_code
def yX6_drop : MethodName := ⟨RX6, "drop", "(I)I"⟩
abbrev cX6_feed : ByteArray := prog_1_method_6_code
def yX6_feed : MethodName := ⟨RX6, "feed", "(I)I"⟩
abbrev cX6_run : ByteArray := prog_1_method_7_code
def yX6_run : MethodName := ⟨RX6, "run", "()I"⟩
abbrev cX6_fault : ByteArray := prog_1_method_8_code
def yX6_fault : MethodName := ⟨RX6, "fault", "()I"⟩
abbrev cX6_undo : ByteArray := prog_1_method_9_code
def yX6_undo : MethodName := ⟨RX6, "undo", "()I"⟩
abbrev cX6_ticks : ByteArray := prog_1_method_10_code
def yX6_ticks : MethodName := ⟨RX6, "ticks", "(I)I"⟩
abbrev cX6_tip : ByteArray := prog_1_method_11_code
def yX6_tip : MethodName := ⟨RX6, "tip", "(I)I"⟩
abbrev cX6_lead : ByteArray := prog_1_method_12_code
def yX6_lead : MethodName := ⟨RX6, "lead", "(III)I"⟩
abbrev cX6_again : ByteArray := prog_1_method_13_code
def yX6_again : MethodName := ⟨RX6, "again", "(II)I"⟩
abbrev cX6_marble : ByteArray := prog_1_method_14_code
def yX6_marble : MethodName := ⟨RX6, "marble", "(II)I"⟩
abbrev cX6_piece : ByteArray := prog_1_method_15_code
def yX6_piece : MethodName := ⟨RX6, "piece", "(II)I"⟩
abbrev cX6_stand : ByteArray := prog_1_method_16_code
def yX6_stand : MethodName := ⟨RX6, "stand", "(I)I"⟩
abbrev cX6_ahead : ByteArray := prog_1_method_17_code
def yX6_ahead : MethodName := ⟨RX6, "ahead", "(II)I"⟩
abbrev cX6_stands : ByteArray := prog_1_method_18_code
def yX6_stands : MethodName := ⟨RX6, "stands", "(III)I"⟩
abbrev cX6_trays : ByteArray := prog_1_method_19_code
def yX6_trays : MethodName := ⟨RX6, "trays", "(II)I"⟩
abbrev cX6_when : ByteArray := prog_1_method_20_code
def yX6_when : MethodName := ⟨RX6, "when", "(I)I"⟩
abbrev cX6_rest : ByteArray := prog_1_method_21_code
def yX6_rest : MethodName := ⟨RX6, "rest", "()I"⟩
abbrev cX6_tips : ByteArray := prog_1_method_22_code
def yX6_tips : MethodName := ⟨RX6, "tips", "(II)I"⟩
abbrev cX6_order : ByteArray := prog_1_method_23_code
def yX6_order : MethodName := ⟨RX6, "order", "(II)I"⟩
abbrev cX6_leads : ByteArray := prog_1_method_24_code
def yX6_leads : MethodName := ⟨RX6, "leads", "(III)I"⟩
abbrev cX6_sets : ByteArray := prog_1_method_25_code
def yX6_sets : MethodName := ⟨RX6, "sets", "(II)I"⟩
abbrev cX6_share : ByteArray := prog_1_method_26_code
def yX6_share : MethodName := ⟨RX6, "share", "(II)I"⟩
abbrev cX6_byTurns : ByteArray := prog_1_method_27_code
def yX6_byTurns : MethodName := ⟨RX6, "byTurns", "(II)I"⟩
abbrev cX6_who : ByteArray := prog_1_method_28_code
def yX6_who : MethodName := ⟨RX6, "who", "(IIIII)I"⟩
abbrev cX6_weights : ByteArray := prog_1_method_29_code
def yX6_weights : MethodName := ⟨RX6, "weights", "(IIIII)I"⟩
abbrev cX6_jam : ByteArray := prog_1_method_30_code
def yX6_jam : MethodName := ⟨RX6, "jam", "(IIII)J"⟩
abbrev cX6_drawn : ByteArray := prog_1_method_31_code
def yX6_drawn : MethodName := ⟨RX6, "drawn", "(III)I"⟩
abbrev cX6_image : ByteArray := prog_1_method_32_code
def yX6_image : MethodName := ⟨RX6, "image", "(I)I"⟩
abbrev cX6_restore : ByteArray := prog_1_method_33_code
def yX6_restore : MethodName := ⟨RX6, "restore", "(I)I"⟩
abbrev cX6_kind : ByteArray := prog_1_method_34_code
def yX6_kind : MethodName := ⟨RX6, "kind", "(I)I"⟩
abbrev cX6_as : ByteArray := prog_1_method_35_code
def yX6_as : MethodName := ⟨RX6, "as", "(II)I"⟩
abbrev cX6_ask : ByteArray := prog_1_method_36_code
def yX6_ask : MethodName := ⟨RX6, "ask", "(II)I"⟩
abbrev cX6_trace : ByteArray := prog_1_method_37_code
def yX6_trace : MethodName := ⟨RX6, "trace", "(I)I"⟩
abbrev cX6_count : ByteArray := prog_1_method_38_code
def yX6_count : MethodName := ⟨RX6, "count", "(I)I"⟩
abbrev cX6_status : ByteArray := prog_1_method_39_code
def yX6_status : MethodName := ⟨RX6, "status", "()I"⟩
abbrev cX6_outside : ByteArray := prog_1_method_40_code
def yX6_outside : MethodName := ⟨RX6, "outside", "(III)Z"⟩
abbrev cX6_noSide : ByteArray := prog_1_method_41_code
def yX6_noSide : MethodName := ⟨RX6, "noSide", "(I)Z"⟩
abbrev cX6_noRow : ByteArray := prog_1_method_42_code
def yX6_noRow : MethodName := ⟨RX6, "noRow", "(I)Z"⟩
abbrev cX6_noRun : ByteArray := prog_1_method_43_code
def yX6_noRun : MethodName := ⟨RX6, "noRun", "()Z"⟩
abbrev cX6_noPiece : ByteArray := prog_1_method_44_code
def yX6_noPiece : MethodName := ⟨RX6, "noPiece", "(I)Z"⟩
abbrev cX6_noMarble : ByteArray := prog_1_method_45_code
def yX6_noMarble : MethodName := ⟨RX6, "noMarble", "(I)Z"⟩
abbrev cX6_findingAt : ByteArray := prog_1_method_46_code
def yX6_findingAt : MethodName := ⟨RX6, "findingAt", "(III)I"⟩
abbrev cX6_found : ByteArray := prog_1_method_47_code
def yX6_found : MethodName := ⟨RX6, "found", "(I)I"⟩
abbrev cX6_foundNone : ByteArray := prog_1_method_48_code
def yX6_foundNone : MethodName := ⟨RX6, "foundNone", "(I)I"⟩
abbrev cX6_setsOf : ByteArray := prog_1_method_49_code
def yX6_setsOf : MethodName := ⟨RX6, "setsOf", "(II)I"⟩
abbrev cX6_shareOf : ByteArray := prog_1_method_50_code
def yX6_shareOf : MethodName := ⟨RX6, "shareOf", "(II)I"⟩
abbrev cX6_power : ByteArray := prog_1_method_51_code
def yX6_power : MethodName := ⟨RX6, "power", "(JI)J"⟩
abbrev cX6_commonDivisor : ByteArray := prog_1_method_52_code
def yX6_commonDivisor : MethodName := ⟨RX6, "commonDivisor", "(JJ)J"⟩
def RX7 : String := "MarbleRunModel"
def TX7 : u_T := fun k => match k with
  | 0 => ("MarbleRunModel", "lanes", "[I", true)
  | 1 => ("MarbleRunModel", "sizes", "[I", true)
  | 2 => ("MarbleRunModel", "items", "[I", true)
  | 3 => ("MarbleRunModel", "found", "I", false)
  | 4 => ("MarbleRunModel", "tape", "[I", true)
  | 5 => ("MarbleRunModel", "tapeMany", "I", false)
  | 6 => ("MarbleRunModel", "faultNumber", "I", false)
  | 7 => ("MarbleRunModel", "bar", "I", false)
  | 8 => ("MarbleRunModel", "marbles", "I", false)
  | 9 => ("MarbleRunModel", "pieces", "I", false)
  | 10 => ("MarbleRunModel", "sort", "[I", true)
  | 11 => ("MarbleRunModel", "jammed", "I", false)
  | 12 => ("MarbleRunModel", "st", "[I", true)
  | 13 => ("MarbleRunModel", "book", "[I", true)
  | 14 => ("MarbleRunModel", "acts", "I", false)
  | 15 => ("MarbleRunModel", "images", "[I", true)
  | 16 => ("MarbleRunModel", "isKept", "[Z", true)
  | 17 => ("MarbleRunModel", "rank", "[I", true)
  | 18 => ("MarbleRunModel", "now", "[I", true)
  | 19 => ("MarbleRunModel", "trail", "[I", true)
  | 20 => ("MarbleRunModel", "trailMany", "I", false)
  | 21 => ("MarbleRunModel", "place", "I", false)
  | 22 => ("MarbleRunModel", "wrongAt", "I", false)
  | 23 => ("MarbleRunModel", "wrong", "I", false)
  | 24 => ("MarbleRunModel", "readBar", "I", false)
  | 25 => ("MarbleRunModel", "readMarbles", "I", false)
  | 26 => ("MarbleRunModel", "readPieces", "I", false)
  | 27 => ("MarbleRunModel", "readSort", "[I", true)
  | 28 => ("MarbleRunModel", "read", "[I", true)
  | 29 => ("MarbleRunModel", "bestRank", "[I", true)
  | 30 => ("MarbleRunModel", "worth", "[I", true)
  | _ => ("MarbleRunModel", "before", "[I", true)
def tyX7 : Nat → FieldType := fun k => match k with
  | 0 => .array .int
  | 1 => .array .int
  | 2 => .array .int
  | 3 => .int
  | 4 => .array .int
  | 5 => .int
  | 6 => .int
  | 7 => .int
  | 8 => .int
  | 9 => .int
  | 10 => .array .int
  | 11 => .int
  | 12 => .array .int
  | 13 => .array .int
  | 14 => .int
  | 15 => .array .int
  | 16 => .array .boolean
  | 17 => .array .int
  | 18 => .array .int
  | 19 => .array .int
  | 20 => .int
  | 21 => .int
  | 22 => .int
  | 23 => .int
  | 24 => .int
  | 25 => .int
  | 26 => .int
  | 27 => .array .int
  | 28 => .array .int
  | 29 => .array .int
  | 30 => .array .int
  | _ => .array .int
theorem nmX7 : ∀ a, a < 32 → ∀ b, b < 32 → a ≠ b → (TX7 a).2.1 ≠ (TX7 b).2.1 := by decide +kernel
theorem tyX7_ok : ∀ k, k < 32 → parseFieldDescriptor (TX7 k).2.2.1 = some (tyX7 k) := by decide +kernel
abbrev cX7_init : ByteArray := prog_9_method_1_code
def yX7_init : MethodName := ⟨RX7, "<init>", "()V"⟩
abbrev cX7_in : ByteArray := prog_9_method_3_code
def yX7_in : MethodName := ⟨RX7, "in", "(III)Z"⟩
abbrev cX7_bring : ByteArray := prog_9_method_4_code
def yX7_bring : MethodName := ⟨RX7, "bring", "([II[III)V"⟩
abbrev cX7_bits : ByteArray := prog_9_method_5_code
def yX7_bits : MethodName := ⟨RX7, "bits", "(I)I"⟩
abbrev cX7_finds : ByteArray := prog_9_method_6_code
def yX7_finds : MethodName := ⟨RX7, "finds", "(I)I"⟩
abbrev cX7_isRow : ByteArray := prog_9_method_7_code
def yX7_isRow : MethodName := ⟨RX7, "isRow", "(I)Z"⟩
abbrev cX7_isMarble : ByteArray := prog_9_method_8_code
def yX7_isMarble : MethodName := ⟨RX7, "isMarble", "(I)Z"⟩
abbrev cX7_isPiece : ByteArray := prog_9_method_9_code
def yX7_isPiece : MethodName := ⟨RX7, "isPiece", "(I)Z"⟩
abbrev cX7_isNone : ByteArray := prog_9_method_10_code
def yX7_isNone : MethodName := ⟨RX7, "isNone", "()Z"⟩
abbrev cX7_cut : ByteArray := prog_9_method_11_code
def yX7_cut : MethodName := ⟨RX7, "cut", "(II)I"⟩
abbrev cX7_row : ByteArray := prog_9_method_12_code
def yX7_row : MethodName := ⟨RX7, "row", "(III)I"⟩
abbrev cX7_set : ByteArray := prog_9_method_13_code
def yX7_set : MethodName := ⟨RX7, "set", "(III)I"⟩
abbrev cX7_isPart : ByteArray := prog_9_method_14_code
def yX7_isPart : MethodName := ⟨RX7, "isPart", "(III)Z"⟩
abbrev cX7_copy : ByteArray := prog_9_method_15_code
def yX7_copy : MethodName := ⟨RX7, "copy", "(IIIII)I"⟩
abbrev cX7_drop : ByteArray := prog_9_method_16_code
def yX7_drop : MethodName := ⟨RX7, "drop", "(I)I"⟩
abbrev cX7_feed : ByteArray := prog_9_method_17_code
def yX7_feed : MethodName := ⟨RX7, "feed", "(I)I"⟩
abbrev cX7_here : ByteArray := prog_9_method_18_code
def yX7_here : MethodName := ⟨RX7, "here", "()I"⟩
abbrev cX7_fails : ByteArray := prog_9_method_19_code
def yX7_fails : MethodName := ⟨RX7, "fails", "(I)V"⟩
abbrev cX7_sign : ByteArray := prog_9_method_20_code
def yX7_sign : MethodName := ⟨RX7, "sign", "(I)V"⟩
abbrev cX7_figures : ByteArray := prog_9_method_21_code
def yX7_figures : MethodName := ⟨RX7, "figures", "()I"⟩
abbrev cX7_number : ByteArray := prog_9_method_22_code
def yX7_number : MethodName := ⟨RX7, "number", "(II)I"⟩
abbrev cX7_sortBy : ByteArray := prog_9_method_23_code
def yX7_sortBy : MethodName := ⟨RX7, "sortBy", "(I)I"⟩
abbrev cX7_readMarble : ByteArray := prog_9_method_24_code
def yX7_readMarble : MethodName := ⟨RX7, "readMarble", "()V"⟩
abbrev cX7_readPiece : ByteArray := prog_9_method_25_code
def yX7_readPiece : MethodName := ⟨RX7, "readPiece", "()V"⟩
abbrev cX7_readRun : ByteArray := prog_9_method_26_code
def yX7_readRun : MethodName := ⟨RX7, "readRun", "()V"⟩
abbrev cX7_run : ByteArray := prog_9_method_27_code
def yX7_run : MethodName := ⟨RX7, "run", "()I"⟩
abbrev cX7_fault : ByteArray := prog_9_method_28_code
def yX7_fault : MethodName := ⟨RX7, "fault", "()I"⟩
abbrev cX7_sends : ByteArray := prog_9_method_29_code
def yX7_sends : MethodName := ⟨RX7, "sends", "([III)V"⟩
abbrev cX7_leaves : ByteArray := prog_9_method_30_code
def yX7_leaves : MethodName := ⟨RX7, "leaves", "([II)V"⟩
abbrev cX7_tickOn : ByteArray := prog_9_method_31_code
def yX7_tickOn : MethodName := ⟨RX7, "tickOn", "([I)V"⟩
abbrev cX7_those : ByteArray := prog_9_method_32_code
def yX7_those : MethodName := ⟨RX7, "those", "([III)I"⟩
abbrev cX7_isInTray : ByteArray := prog_9_method_33_code
def yX7_isInTray : MethodName := ⟨RX7, "isInTray", "([II)Z"⟩
abbrev cX7_notes : ByteArray := prog_9_method_34_code
def yX7_notes : MethodName := ⟨RX7, "notes", "()V"⟩
abbrev cX7_undo : ByteArray := prog_9_method_35_code
def yX7_undo : MethodName := ⟨RX7, "undo", "()I"⟩
abbrev cX7_ticks : ByteArray := prog_9_method_36_code
def yX7_ticks : MethodName := ⟨RX7, "ticks", "(I)I"⟩
abbrev cX7_tip : ByteArray := prog_9_method_37_code
def yX7_tip : MethodName := ⟨RX7, "tip", "(I)I"⟩
abbrev cX7_lead : ByteArray := prog_9_method_38_code
def yX7_lead : MethodName := ⟨RX7, "lead", "(III)I"⟩
abbrev cX7_comes : ByteArray := prog_9_method_39_code
def yX7_comes : MethodName := ⟨RX7, "comes", "([III)V"⟩
abbrev cX7_again : ByteArray := prog_9_method_40_code
def yX7_again : MethodName := ⟨RX7, "again", "(II)I"⟩
abbrev cX7_marble : ByteArray := prog_9_method_41_code
def yX7_marble : MethodName := ⟨RX7, "marble", "(II)I"⟩
abbrev cX7_piece : ByteArray := prog_9_method_42_code
def yX7_piece : MethodName := ⟨RX7, "piece", "(II)I"⟩
abbrev cX7_stand : ByteArray := prog_9_method_43_code
def yX7_stand : MethodName := ⟨RX7, "stand", "(I)I"⟩
abbrev cX7_asItIs : ByteArray := prog_9_method_44_code
def yX7_asItIs : MethodName := ⟨RX7, "asItIs", "()V"⟩
abbrev cX7_goes : ByteArray := prog_9_method_45_code
def yX7_goes : MethodName := ⟨RX7, "goes", "(I)V"⟩
abbrev cX7_rightOf : ByteArray := prog_9_method_46_code
def yX7_rightOf : MethodName := ⟨RX7, "rightOf", "()I"⟩
abbrev cX7_leftOf : ByteArray := prog_9_method_47_code
def yX7_leftOf : MethodName := ⟨RX7, "leftOf", "()I"⟩
abbrev cX7_ahead : ByteArray := prog_9_method_48_code
def yX7_ahead : MethodName := ⟨RX7, "ahead", "(II)I"⟩
abbrev cX7_stands : ByteArray := prog_9_method_49_code
def yX7_stands : MethodName := ⟨RX7, "stands", "(III)I"⟩
abbrev cX7_trays : ByteArray := prog_9_method_50_code
def yX7_trays : MethodName := ⟨RX7, "trays", "(II)I"⟩
abbrev cX7_when : ByteArray := prog_9_method_51_code
def yX7_when : MethodName := ⟨RX7, "when", "(I)I"⟩
abbrev cX7_rest : ByteArray := prog_9_method_52_code
def yX7_rest : MethodName := ⟨RX7, "rest", "()I"⟩
abbrev cX7_tipsNow : ByteArray := prog_9_method_53_code
def yX7_tipsNow : MethodName := ⟨RX7, "tipsNow", "(I)V"⟩
abbrev cX7_tips : ByteArray := prog_9_method_54_code
def yX7_tips : MethodName := ⟨RX7, "tips", "(II)I"⟩
abbrev cX7_byNumbers : ByteArray := prog_9_method_55_code
def yX7_byNumbers : MethodName := ⟨RX7, "byNumbers", "()V"⟩
abbrev cX7_nextOrder : ByteArray := prog_9_method_56_code
def yX7_nextOrder : MethodName := ⟨RX7, "nextOrder", "()Z"⟩
abbrev cX7_order : ByteArray := prog_9_method_57_code
def yX7_order : MethodName := ⟨RX7, "order", "(II)I"⟩
abbrev cX7_leads : ByteArray := prog_9_method_58_code
def yX7_leads : MethodName := ⟨RX7, "leads", "(III)I"⟩
abbrev cX7_weightOf : ByteArray := prog_9_method_59_code
def yX7_weightOf : MethodName := ⟨RX7, "weightOf", "(I)I"⟩
abbrev cX7_sets : ByteArray := prog_9_method_60_code
def yX7_sets : MethodName := ⟨RX7, "sets", "(II)I"⟩
abbrev cX7_wentOfAll : ByteArray := prog_9_method_61_code
def yX7_wentOfAll : MethodName := ⟨RX7, "wentOfAll", "()I"⟩
abbrev cX7_share : ByteArray := prog_9_method_62_code
def yX7_share : MethodName := ⟨RX7, "share", "(II)I"⟩
abbrev cX7_chosen : ByteArray := prog_9_method_63_code
def yX7_chosen : MethodName := ⟨RX7, "chosen", "(IZ)I"⟩
abbrev cX7_byTurns : ByteArray := prog_9_method_64_code
def yX7_byTurns : MethodName := ⟨RX7, "byTurns", "(II)I"⟩
abbrev cX7_isSo : ByteArray := prog_9_method_65_code
def yX7_isSo : MethodName := ⟨RX7, "isSo", "(II)Z"⟩
abbrev cX7_refuses : ByteArray := prog_9_method_66_code
def yX7_refuses : MethodName := ⟨RX7, "refuses", "(III)I"⟩
abbrev cX7_who : ByteArray := prog_9_method_67_code
def yX7_who : MethodName := ⟨RX7, "who", "(IIIII)I"⟩
abbrev cX7_weights : ByteArray := prog_9_method_68_code
def yX7_weights : MethodName := ⟨RX7, "weights", "(IIIII)I"⟩
abbrev cX7_common : ByteArray := prog_9_method_69_code
def yX7_common : MethodName := ⟨RX7, "common", "(JJ)J"⟩
abbrev cX7_jam : ByteArray := prog_9_method_70_code
def yX7_jam : MethodName := ⟨RX7, "jam", "(IIII)J"⟩
abbrev cX7_drawn : ByteArray := prog_9_method_71_code
def yX7_drawn : MethodName := ⟨RX7, "drawn", "(III)I"⟩
abbrev cX7_image : ByteArray := prog_9_method_72_code
def yX7_image : MethodName := ⟨RX7, "image", "(I)I"⟩
abbrev cX7_restore : ByteArray := prog_9_method_73_code
def yX7_restore : MethodName := ⟨RX7, "restore", "(I)I"⟩
abbrev cX7_kind : ByteArray := prog_9_method_74_code
def yX7_kind : MethodName := ⟨RX7, "kind", "(I)I"⟩
abbrev cX7_isA : ByteArray := prog_9_method_75_code
def yX7_isA : MethodName := ⟨RX7, "isA", "(II)Z"⟩
abbrev cX7_as : ByteArray := prog_9_method_76_code
def yX7_as : MethodName := ⟨RX7, "as", "(II)I"⟩
abbrev cX7_begins : ByteArray := prog_9_method_77_code
def yX7_begins : MethodName := ⟨RX7, "begins", "(I)V"⟩
abbrev cX7_ten : ByteArray := prog_9_method_78_code
def yX7_ten : MethodName := ⟨RX7, "ten", "(I)I"⟩
abbrev cX7_twenty : ByteArray := prog_9_method_79_code
def yX7_twenty : MethodName := ⟨RX7, "twenty", "(I)I"⟩
abbrev cX7_twentyOne : ByteArray := prog_9_method_80_code
def yX7_twentyOne : MethodName := ⟨RX7, "twentyOne", "(I)I"⟩
abbrev cX7_gateMark : ByteArray := prog_9_method_81_code
def yX7_gateMark : MethodName := ⟨RX7, "gateMark", "(I)I"⟩
abbrev cX7_gateSize : ByteArray := prog_9_method_82_code
def yX7_gateSize : MethodName := ⟨RX7, "gateSize", "(I)I"⟩
abbrev cX7_sillSize : ByteArray := prog_9_method_83_code
def yX7_sillSize : MethodName := ⟨RX7, "sillSize", "(I)I"⟩
abbrev cX7_sillMark : ByteArray := prog_9_method_84_code
def yX7_sillMark : MethodName := ⟨RX7, "sillMark", "(I)I"⟩
abbrev cX7_ask : ByteArray := prog_9_method_85_code
def yX7_ask : MethodName := ⟨RX7, "ask", "(II)I"⟩
abbrev cX7_trace : ByteArray := prog_9_method_86_code
def yX7_trace : MethodName := ⟨RX7, "trace", "(I)I"⟩
abbrev cX7_rowsThere : ByteArray := prog_9_method_87_code
def yX7_rowsThere : MethodName := ⟨RX7, "rowsThere", "()I"⟩
abbrev cX7_count : ByteArray := prog_9_method_88_code
def yX7_count : MethodName := ⟨RX7, "count", "(I)I"⟩
abbrev cX7_status : ByteArray := prog_9_method_89_code
def yX7_status : MethodName := ⟨RX7, "status", "()I"⟩
def RJ6 : String := "java/lang/Integer"
def TJ6 : u_T := fun k => match k with
  | _ => ("", "", "", false)
def tyJ6 : Nat → FieldType := fun k => match k with
  | _ => .int
abbrev cJ6_bitCount_0f7a4 : ByteArray := prog_10_method_49_code
def yJ6_bitCount_0f7a4 : MethodName := ⟨RJ6, "bitCount", "(I)I"⟩
def RJ9 : String := "java/lang/Math"
def TJ9 : u_T := fun k => match k with
  | _ => ("", "", "", false)
def tyJ9 : Nat → FieldType := fun k => match k with
  | _ => .int
abbrev cJ9_max_7cf53 : ByteArray := prog_11_method_65_code
def yJ9_max_7cf53 : MethodName := ⟨RJ9, "max", "(II)I"⟩
abbrev cJ9_min_7cf53 : ByteArray := prog_11_method_69_code
def yJ9_min_7cf53 : MethodName := ⟨RJ9, "min", "(II)I"⟩
def RJ10 : String := "java/lang/System"
def TJ10 : u_T := fun k => match k with
  | _ => ("", "", "", false)
def tyJ10 : Nat → FieldType := fun k => match k with
  | _ => .int
def RJ7 : String := "java/util/Arrays"
def TJ7 : u_T := fun k => match k with
  | _ => ("", "", "", false)
def tyJ7 : Nat → FieldType := fun k => match k with
  | _ => .int
abbrev cJ7_fill_53178 : ByteArray := prog_13_method_103_code
def yJ7_fill_53178 : MethodName := ⟨RJ7, "fill", "([II)V"⟩
def RL : String := "MarbleRunLaw"
abbrev cL_law : ByteArray := code
def yL_law : MethodName := ⟨RL, "law", "([I)Z"⟩
abbrev vwCl : List vw_C := [(RX0, TX0, 3), (RX1, TX1, 2), (RX2, TX2, 3), (RX3, TX3, 10), (RX4, TX4, 5), (RX5, TX5, 15), (RX6, TX6, 10), (RX7, TX7, 32)]
end
section
theorem dX0_init_0 : decode cX0_init 0 = .ok (.aload_n 0, 1) := by decide +kernel
theorem dX0_init_1 : decode cX0_init 1 = .ok (.invokespecial 1, 3) := by decide +kernel
theorem dX0_init_4 : decode cX0_init 4 = .ok (.aload_n 0, 1) := by decide +kernel
theorem dX0_init_5 : decode cX0_init 5 = .ok (.bipush 24, 2) := by decide +kernel
theorem dX0_init_7 : decode cX0_init 7 = .ok (.anewarray 9, 3) := by decide +kernel
theorem dX0_init_10 : decode cX0_init 10 = .ok (.putfield 11, 3) := by decide +kernel
theorem dX0_init_13 : decode cX0_init 13 = .ok (.aload_n 0, 1) := by decide +kernel
theorem dX0_init_14 : decode cX0_init 14 = .ok (.iconst 0, 1) := by decide +kernel
theorem dX0_init_15 : decode cX0_init 15 = .ok (.putfield 15, 3) := by decide +kernel
theorem dX0_init_18 : decode cX0_init 18 = .ok (.aload_n 0, 1) := by decide +kernel
theorem dX0_init_19 : decode cX0_init 19 = .ok (.iconst 0, 1) := by decide +kernel
theorem dX0_init_20 : decode cX0_init 20 = .ok (.putfield 19, 3) := by decide +kernel
theorem dX0_init_23 : decode cX0_init 23 = .ok (.iconst 0, 1) := by decide +kernel
theorem dX0_init_24 : decode cX0_init 24 = .ok (.istore_n 1, 1) := by decide +kernel
theorem dX0_init_25 : decode cX0_init 25 = .ok (.iload_n 1, 1) := by decide +kernel
theorem dX0_init_26 : decode cX0_init 26 = .ok (.bipush 24, 2) := by decide +kernel
theorem dX0_init_28 : decode cX0_init 28 = .ok (.if_icmp .ge 22, 3) := by decide +kernel
theorem dX0_init_31 : decode cX0_init 31 = .ok (.aload_n 0, 1) := by decide +kernel
theorem dX0_init_32 : decode cX0_init 32 = .ok (.getfield 11, 3) := by decide +kernel
theorem dX0_init_35 : decode cX0_init 35 = .ok (.iload_n 1, 1) := by decide +kernel
theorem dX0_init_36 : decode cX0_init 36 = .ok (.new 9, 3) := by decide +kernel
theorem dX0_init_39 : decode cX0_init 39 = .ok (.dup, 1) := by decide +kernel
theorem dX0_init_40 : decode cX0_init 40 = .ok (.invokespecial 22, 3) := by decide +kernel
theorem dX0_init_43 : decode cX0_init 43 = .ok (.aastore, 1) := by decide +kernel
theorem dX0_init_44 : decode cX0_init 44 = .ok (.iinc 1 1, 3) := by decide +kernel
theorem dX0_init_47 : decode cX0_init 47 = .ok (.goto (-22), 3) := by decide +kernel
theorem dX0_init_50 : decode cX0_init 50 = .ok (.return_, 1) := by decide +kernel
theorem dX0_kept_0 : decode cX0_kept 0 = .ok (.aload_n 0, 1) := by decide +kernel
theorem dX0_kept_1 : decode cX0_kept 1 = .ok (.getfield 19, 3) := by decide +kernel
theorem dX0_kept_4 : decode cX0_kept 4 = .ok (.ireturn, 1) := by decide +kernel
theorem dX0_forget_0 : decode cX0_forget 0 = .ok (.aload_n 0, 1) := by decide +kernel
theorem dX0_forget_1 : decode cX0_forget 1 = .ok (.iconst 0, 1) := by decide +kernel
theorem dX0_forget_2 : decode cX0_forget 2 = .ok (.putfield 19, 3) := by decide +kernel
theorem dX0_forget_5 : decode cX0_forget 5 = .ok (.return_, 1) := by decide +kernel
theorem dX0_keep_0 : decode cX0_keep 0 = .ok (.aload_n 0, 1) := by decide +kernel
theorem dX0_keep_1 : decode cX0_keep 1 = .ok (.getfield 11, 3) := by decide +kernel
theorem dX0_keep_4 : decode cX0_keep 4 = .ok (.aload_n 0, 1) := by decide +kernel
theorem dX0_keep_5 : decode cX0_keep 5 = .ok (.getfield 15, 3) := by decide +kernel
theorem dX0_keep_8 : decode cX0_keep 8 = .ok (.aaload, 1) := by decide +kernel
theorem dX0_keep_9 : decode cX0_keep 9 = .ok (.aload_n 1, 1) := by decide +kernel
theorem dX0_keep_10 : decode cX0_keep 10 = .ok (.invokevirtual 23, 3) := by decide +kernel
theorem dX0_keep_13 : decode cX0_keep 13 = .ok (.aload_n 0, 1) := by decide +kernel
theorem dX0_keep_14 : decode cX0_keep 14 = .ok (.aload_n 0, 1) := by decide +kernel
theorem dX0_keep_15 : decode cX0_keep 15 = .ok (.getfield 15, 3) := by decide +kernel
theorem dX0_keep_18 : decode cX0_keep 18 = .ok (.iconst 1, 1) := by decide +kernel
theorem dX0_keep_19 : decode cX0_keep 19 = .ok (.iadd, 1) := by decide +kernel
theorem dX0_keep_20 : decode cX0_keep 20 = .ok (.bipush 24, 2) := by decide +kernel
theorem dX0_keep_22 : decode cX0_keep 22 = .ok (.irem, 1) := by decide +kernel
theorem dX0_keep_23 : decode cX0_keep 23 = .ok (.putfield 15, 3) := by decide +kernel
theorem dX0_keep_26 : decode cX0_keep 26 = .ok (.aload_n 0, 1) := by decide +kernel
theorem dX0_keep_27 : decode cX0_keep 27 = .ok (.bipush 24, 2) := by decide +kernel
theorem dX0_keep_29 : decode cX0_keep 29 = .ok (.aload_n 0, 1) := by decide +kernel
theorem dX0_keep_30 : decode cX0_keep 30 = .ok (.getfield 19, 3) := by decide +kernel
theorem dX0_keep_33 : decode cX0_keep 33 = .ok (.iconst 1, 1) := by decide +kernel
theorem dX0_keep_34 : decode cX0_keep 34 = .ok (.iadd, 1) := by decide +kernel
theorem dX0_keep_35 : decode cX0_keep 35 = .ok (.invokestatic 27, 3) := by decide +kernel
theorem dX0_keep_38 : decode cX0_keep 38 = .ok (.putfield 19, 3) := by decide +kernel
theorem dX0_keep_41 : decode cX0_keep 41 = .ok (.return_, 1) := by decide +kernel
theorem dX0_takeBack_0 : decode cX0_takeBack 0 = .ok (.aload_n 0, 1) := by decide +kernel
theorem dX0_takeBack_1 : decode cX0_takeBack 1 = .ok (.getfield 19, 3) := by decide +kernel
theorem dX0_takeBack_4 : decode cX0_takeBack 4 = .ok (.ifCond .ne 5, 3) := by decide +kernel
theorem dX0_takeBack_7 : decode cX0_takeBack 7 = .ok (.iconst 0, 1) := by decide +kernel
theorem dX0_takeBack_8 : decode cX0_takeBack 8 = .ok (.ireturn, 1) := by decide +kernel
theorem dX0_takeBack_9 : decode cX0_takeBack 9 = .ok (.aload_n 0, 1) := by decide +kernel
theorem dX0_takeBack_10 : decode cX0_takeBack 10 = .ok (.dup, 1) := by decide +kernel
theorem dX0_takeBack_11 : decode cX0_takeBack 11 = .ok (.getfield 19, 3) := by decide +kernel
theorem dX0_takeBack_14 : decode cX0_takeBack 14 = .ok (.iconst 1, 1) := by decide +kernel
theorem dX0_takeBack_15 : decode cX0_takeBack 15 = .ok (.isub, 1) := by decide +kernel
theorem dX0_takeBack_16 : decode cX0_takeBack 16 = .ok (.putfield 19, 3) := by decide +kernel
theorem dX0_takeBack_19 : decode cX0_takeBack 19 = .ok (.aload_n 0, 1) := by decide +kernel
theorem dX0_takeBack_20 : decode cX0_takeBack 20 = .ok (.aload_n 0, 1) := by decide +kernel
theorem dX0_takeBack_21 : decode cX0_takeBack 21 = .ok (.getfield 15, 3) := by decide +kernel
theorem dX0_takeBack_24 : decode cX0_takeBack 24 = .ok (.bipush 24, 2) := by decide +kernel
theorem dX0_takeBack_26 : decode cX0_takeBack 26 = .ok (.iadd, 1) := by decide +kernel
theorem dX0_takeBack_27 : decode cX0_takeBack 27 = .ok (.iconst 1, 1) := by decide +kernel
theorem dX0_takeBack_28 : decode cX0_takeBack 28 = .ok (.isub, 1) := by decide +kernel
theorem dX0_takeBack_29 : decode cX0_takeBack 29 = .ok (.bipush 24, 2) := by decide +kernel
theorem dX0_takeBack_31 : decode cX0_takeBack 31 = .ok (.irem, 1) := by decide +kernel
theorem dX0_takeBack_32 : decode cX0_takeBack 32 = .ok (.putfield 15, 3) := by decide +kernel
theorem dX0_takeBack_35 : decode cX0_takeBack 35 = .ok (.aload_n 1, 1) := by decide +kernel
theorem dX0_takeBack_36 : decode cX0_takeBack 36 = .ok (.aload_n 0, 1) := by decide +kernel
theorem dX0_takeBack_37 : decode cX0_takeBack 37 = .ok (.getfield 11, 3) := by decide +kernel
theorem dX0_takeBack_40 : decode cX0_takeBack 40 = .ok (.aload_n 0, 1) := by decide +kernel
theorem dX0_takeBack_41 : decode cX0_takeBack 41 = .ok (.getfield 15, 3) := by decide +kernel
theorem dX0_takeBack_44 : decode cX0_takeBack 44 = .ok (.aaload, 1) := by decide +kernel
theorem dX0_takeBack_45 : decode cX0_takeBack 45 = .ok (.invokevirtual 23, 3) := by decide +kernel
theorem dX0_takeBack_48 : decode cX0_takeBack 48 = .ok (.iconst 1, 1) := by decide +kernel
theorem dX0_takeBack_49 : decode cX0_takeBack 49 = .ok (.ireturn, 1) := by decide +kernel
theorem dX1_init_0 : decode cX1_init 0 = .ok (.aload_n 0, 1) := by decide +kernel
theorem dX1_init_1 : decode cX1_init 1 = .ok (.invokespecial 3, 3) := by decide +kernel
theorem dX1_init_4 : decode cX1_init 4 = .ok (.aload_n 0, 1) := by decide +kernel
theorem dX1_init_5 : decode cX1_init 5 = .ok (.bipush 16, 2) := by decide +kernel
theorem dX1_init_7 : decode cX1_init 7 = .ok (.newarray .int, 2) := by decide +kernel
theorem dX1_init_9 : decode cX1_init 9 = .ok (.putfield 11, 3) := by decide +kernel
theorem dX1_init_12 : decode cX1_init 12 = .ok (.aload_n 0, 1) := by decide +kernel
theorem dX1_init_13 : decode cX1_init 13 = .ok (.iconst 0, 1) := by decide +kernel
theorem dX1_init_14 : decode cX1_init 14 = .ok (.putfield 15, 3) := by decide +kernel
theorem dX1_init_17 : decode cX1_init 17 = .ok (.return_, 1) := by decide +kernel
theorem dX1_isOfKind_0 : decode cX1_isOfKind 0 = .ok (.iload_n 0, 1) := by decide +kernel
theorem dX1_isOfKind_1 : decode cX1_isOfKind 1 = .ok (.istore_n 2, 1) := by decide +kernel
theorem dX1_isOfKind_2 : decode cX1_isOfKind 2 = .ok (.iconst 0, 1) := by decide +kernel
theorem dX1_isOfKind_3 : decode cX1_isOfKind 3 = .ok (.istore_n 3, 1) := by decide +kernel
theorem dX1_isOfKind_4 : decode cX1_isOfKind 4 = .ok (.iload_n 3, 1) := by decide +kernel
theorem dX1_isOfKind_5 : decode cX1_isOfKind 5 = .ok (.getstatic 19, 3) := by decide +kernel
theorem dX1_isOfKind_8 : decode cX1_isOfKind 8 = .ok (.arraylength, 1) := by decide +kernel
theorem dX1_isOfKind_9 : decode cX1_isOfKind 9 = .ok (.if_icmp .ge 34, 3) := by decide +kernel
theorem dX1_isOfKind_12 : decode cX1_isOfKind 12 = .ok (.iload_n 2, 1) := by decide +kernel
theorem dX1_isOfKind_13 : decode cX1_isOfKind 13 = .ok (.ifCond .lt 30, 3) := by decide +kernel
theorem dX1_isOfKind_16 : decode cX1_isOfKind 16 = .ok (.iload_n 2, 1) := by decide +kernel
theorem dX1_isOfKind_17 : decode cX1_isOfKind 17 = .ok (.getstatic 19, 3) := by decide +kernel
theorem dX1_isOfKind_20 : decode cX1_isOfKind 20 = .ok (.arraylength, 1) := by decide +kernel
theorem dX1_isOfKind_21 : decode cX1_isOfKind 21 = .ok (.if_icmp .ge 22, 3) := by decide +kernel
theorem dX1_isOfKind_24 : decode cX1_isOfKind 24 = .ok (.iload_n 2, 1) := by decide +kernel
theorem dX1_isOfKind_25 : decode cX1_isOfKind 25 = .ok (.iload_n 1, 1) := by decide +kernel
theorem dX1_isOfKind_26 : decode cX1_isOfKind 26 = .ok (.if_icmp .ne 5, 3) := by decide +kernel
theorem dX1_isOfKind_29 : decode cX1_isOfKind 29 = .ok (.iconst 1, 1) := by decide +kernel
theorem dX1_isOfKind_30 : decode cX1_isOfKind 30 = .ok (.ireturn, 1) := by decide +kernel
theorem dX1_isOfKind_31 : decode cX1_isOfKind 31 = .ok (.getstatic 19, 3) := by decide +kernel
theorem dX1_isOfKind_34 : decode cX1_isOfKind 34 = .ok (.iload_n 2, 1) := by decide +kernel
theorem dX1_isOfKind_35 : decode cX1_isOfKind 35 = .ok (.iaload, 1) := by decide +kernel
theorem dX1_isOfKind_36 : decode cX1_isOfKind 36 = .ok (.istore_n 2, 1) := by decide +kernel
theorem dX1_isOfKind_37 : decode cX1_isOfKind 37 = .ok (.iinc 3 1, 3) := by decide +kernel
theorem dX1_isOfKind_40 : decode cX1_isOfKind 40 = .ok (.goto (-36), 3) := by decide +kernel
theorem dX1_isOfKind_43 : decode cX1_isOfKind 43 = .ok (.iconst 0, 1) := by decide +kernel
theorem dX1_isOfKind_44 : decode cX1_isOfKind 44 = .ok (.ireturn, 1) := by decide +kernel
theorem dX1_traceAt_0 : decode cX1_traceAt 0 = .ok (.iload_n 1, 1) := by decide +kernel
theorem dX1_traceAt_1 : decode cX1_traceAt 1 = .ok (.ifCond .lt 20, 3) := by decide +kernel
theorem dX1_traceAt_4 : decode cX1_traceAt 4 = .ok (.iload_n 1, 1) := by decide +kernel
theorem dX1_traceAt_5 : decode cX1_traceAt 5 = .ok (.aload_n 0, 1) := by decide +kernel
theorem dX1_traceAt_6 : decode cX1_traceAt 6 = .ok (.getfield 15, 3) := by decide +kernel
theorem dX1_traceAt_9 : decode cX1_traceAt 9 = .ok (.if_icmp .ge 12, 3) := by decide +kernel
theorem dX1_traceAt_12 : decode cX1_traceAt 12 = .ok (.aload_n 0, 1) := by decide +kernel
theorem dX1_traceAt_13 : decode cX1_traceAt 13 = .ok (.getfield 11, 3) := by decide +kernel
theorem dX1_traceAt_16 : decode cX1_traceAt 16 = .ok (.iload_n 1, 1) := by decide +kernel
theorem dX1_traceAt_17 : decode cX1_traceAt 17 = .ok (.iaload, 1) := by decide +kernel
theorem dX1_traceAt_18 : decode cX1_traceAt 18 = .ok (.goto 5, 3) := by decide +kernel
theorem dX1_traceAt_21 : decode cX1_traceAt 21 = .ok (.ldc 22, 2) := by decide +kernel
theorem dX1_traceAt_23 : decode cX1_traceAt 23 = .ok (.ireturn, 1) := by decide +kernel
theorem dX1_emptyTrace_0 : decode cX1_emptyTrace 0 = .ok (.aload_n 0, 1) := by decide +kernel
theorem dX1_emptyTrace_1 : decode cX1_emptyTrace 1 = .ok (.iconst 0, 1) := by decide +kernel
theorem dX1_emptyTrace_2 : decode cX1_emptyTrace 2 = .ok (.putfield 15, 3) := by decide +kernel
theorem dX1_emptyTrace_5 : decode cX1_emptyTrace 5 = .ok (.return_, 1) := by decide +kernel
theorem dX1_begin_0 : decode cX1_begin 0 = .ok (.aload_n 0, 1) := by decide +kernel
theorem dX1_begin_1 : decode cX1_begin 1 = .ok (.getfield 15, 3) := by decide +kernel
theorem dX1_begin_4 : decode cX1_begin 4 = .ok (.bipush 16, 2) := by decide +kernel
theorem dX1_begin_6 : decode cX1_begin 6 = .ok (.if_icmp .ge 23, 3) := by decide +kernel
theorem dX1_begin_9 : decode cX1_begin 9 = .ok (.aload_n 0, 1) := by decide +kernel
theorem dX1_begin_10 : decode cX1_begin 10 = .ok (.getfield 11, 3) := by decide +kernel
theorem dX1_begin_13 : decode cX1_begin 13 = .ok (.aload_n 0, 1) := by decide +kernel
theorem dX1_begin_14 : decode cX1_begin 14 = .ok (.getfield 15, 3) := by decide +kernel
theorem dX1_begin_17 : decode cX1_begin 17 = .ok (.iload_n 1, 1) := by decide +kernel
theorem dX1_begin_18 : decode cX1_begin 18 = .ok (.iastore, 1) := by decide +kernel
theorem dX1_begin_19 : decode cX1_begin 19 = .ok (.aload_n 0, 1) := by decide +kernel
theorem dX1_begin_20 : decode cX1_begin 20 = .ok (.dup, 1) := by decide +kernel
theorem dX1_begin_21 : decode cX1_begin 21 = .ok (.getfield 15, 3) := by decide +kernel
theorem dX1_begin_24 : decode cX1_begin 24 = .ok (.iconst 1, 1) := by decide +kernel
theorem dX1_begin_25 : decode cX1_begin 25 = .ok (.iadd, 1) := by decide +kernel
theorem dX1_begin_26 : decode cX1_begin 26 = .ok (.putfield 15, 3) := by decide +kernel
theorem dX1_begin_29 : decode cX1_begin 29 = .ok (.return_, 1) := by decide +kernel
theorem dX1_size_0 : decode cX1_size 0 = .ok (.aload_n 1, 1) := by decide +kernel
theorem dX1_size_1 : decode cX1_size 1 = .ok (.getfield 23, 3) := by decide +kernel
theorem dX1_size_4 : decode cX1_size 4 = .ok (.iload_n 2, 1) := by decide +kernel
theorem dX1_size_5 : decode cX1_size 5 = .ok (.iaload, 1) := by decide +kernel
theorem dX1_size_6 : decode cX1_size 6 = .ok (.tableswitch 69 1 5 #[34, 41, 48, 55, 62], 34) := by decide +kernel
theorem dX1_size_40 : decode cX1_size 40 = .ok (.aload_n 0, 1) := by decide +kernel
theorem dX1_size_41 : decode cX1_size 41 = .ok (.aload_n 1, 1) := by decide +kernel
theorem dX1_size_42 : decode cX1_size 42 = .ok (.iload_n 2, 1) := by decide +kernel
theorem dX1_size_43 : decode cX1_size 43 = .ok (.invokevirtual 28, 3) := by decide +kernel
theorem dX1_size_46 : decode cX1_size 46 = .ok (.ireturn, 1) := by decide +kernel
theorem dX1_size_47 : decode cX1_size 47 = .ok (.aload_n 0, 1) := by decide +kernel
theorem dX1_size_48 : decode cX1_size 48 = .ok (.aload_n 1, 1) := by decide +kernel
theorem dX1_size_49 : decode cX1_size 49 = .ok (.iload_n 2, 1) := by decide +kernel
theorem dX1_size_50 : decode cX1_size 50 = .ok (.invokevirtual 32, 3) := by decide +kernel
theorem dX1_size_53 : decode cX1_size 53 = .ok (.ireturn, 1) := by decide +kernel
theorem dX1_size_54 : decode cX1_size 54 = .ok (.aload_n 0, 1) := by decide +kernel
theorem dX1_size_55 : decode cX1_size 55 = .ok (.aload_n 1, 1) := by decide +kernel
theorem dX1_size_56 : decode cX1_size 56 = .ok (.iload_n 2, 1) := by decide +kernel
theorem dX1_size_57 : decode cX1_size 57 = .ok (.invokevirtual 28, 3) := by decide +kernel
theorem dX1_size_60 : decode cX1_size 60 = .ok (.ireturn, 1) := by decide +kernel
theorem dX1_size_61 : decode cX1_size 61 = .ok (.aload_n 0, 1) := by decide +kernel
theorem dX1_size_62 : decode cX1_size 62 = .ok (.aload_n 1, 1) := by decide +kernel
theorem dX1_size_63 : decode cX1_size 63 = .ok (.iload_n 2, 1) := by decide +kernel
theorem dX1_size_64 : decode cX1_size 64 = .ok (.invokevirtual 35, 3) := by decide +kernel
theorem dX1_size_67 : decode cX1_size 67 = .ok (.ireturn, 1) := by decide +kernel
theorem dX1_size_68 : decode cX1_size 68 = .ok (.aload_n 0, 1) := by decide +kernel
theorem dX1_size_69 : decode cX1_size 69 = .ok (.aload_n 1, 1) := by decide +kernel
theorem dX1_size_70 : decode cX1_size 70 = .ok (.iload_n 2, 1) := by decide +kernel
theorem dX1_size_71 : decode cX1_size 71 = .ok (.invokevirtual 38, 3) := by decide +kernel
theorem dX1_size_74 : decode cX1_size 74 = .ok (.ireturn, 1) := by decide +kernel
theorem dX1_size_75 : decode cX1_size 75 = .ok (.aload_n 0, 1) := by decide +kernel
theorem dX1_size_76 : decode cX1_size 76 = .ok (.aload_n 1, 1) := by decide +kernel
theorem dX1_size_77 : decode cX1_size 77 = .ok (.iload_n 2, 1) := by decide +kernel
theorem dX1_size_78 : decode cX1_size 78 = .ok (.invokevirtual 41, 3) := by decide +kernel
theorem dX1_size_81 : decode cX1_size 81 = .ok (.ireturn, 1) := by decide +kernel
theorem dX1_mark_0 : decode cX1_mark 0 = .ok (.aload_n 1, 1) := by decide +kernel
theorem dX1_mark_1 : decode cX1_mark 1 = .ok (.getfield 23, 3) := by decide +kernel
theorem dX1_mark_4 : decode cX1_mark 4 = .ok (.iload_n 2, 1) := by decide +kernel
theorem dX1_mark_5 : decode cX1_mark 5 = .ok (.iaload, 1) := by decide +kernel
theorem dX1_mark_6 : decode cX1_mark 6 = .ok (.tableswitch 69 1 5 #[34, 41, 48, 55, 62], 34) := by decide +kernel
theorem dX1_mark_40 : decode cX1_mark 40 = .ok (.aload_n 0, 1) := by decide +kernel
theorem dX1_mark_41 : decode cX1_mark 41 = .ok (.aload_n 1, 1) := by decide +kernel
theorem dX1_mark_42 : decode cX1_mark 42 = .ok (.iload_n 2, 1) := by decide +kernel
theorem dX1_mark_43 : decode cX1_mark 43 = .ok (.invokevirtual 44, 3) := by decide +kernel
theorem dX1_mark_46 : decode cX1_mark 46 = .ok (.ireturn, 1) := by decide +kernel
theorem dX1_mark_47 : decode cX1_mark 47 = .ok (.aload_n 0, 1) := by decide +kernel
theorem dX1_mark_48 : decode cX1_mark 48 = .ok (.aload_n 1, 1) := by decide +kernel
theorem dX1_mark_49 : decode cX1_mark 49 = .ok (.iload_n 2, 1) := by decide +kernel
theorem dX1_mark_50 : decode cX1_mark 50 = .ok (.invokevirtual 47, 3) := by decide +kernel
theorem dX1_mark_53 : decode cX1_mark 53 = .ok (.ireturn, 1) := by decide +kernel
theorem dX1_mark_54 : decode cX1_mark 54 = .ok (.aload_n 0, 1) := by decide +kernel
theorem dX1_mark_55 : decode cX1_mark 55 = .ok (.aload_n 1, 1) := by decide +kernel
theorem dX1_mark_56 : decode cX1_mark 56 = .ok (.iload_n 2, 1) := by decide +kernel
theorem dX1_mark_57 : decode cX1_mark 57 = .ok (.invokevirtual 50, 3) := by decide +kernel
theorem dX1_mark_60 : decode cX1_mark 60 = .ok (.ireturn, 1) := by decide +kernel
theorem dX1_mark_61 : decode cX1_mark 61 = .ok (.aload_n 0, 1) := by decide +kernel
theorem dX1_mark_62 : decode cX1_mark 62 = .ok (.aload_n 1, 1) := by decide +kernel
theorem dX1_mark_63 : decode cX1_mark 63 = .ok (.iload_n 2, 1) := by decide +kernel
theorem dX1_mark_64 : decode cX1_mark 64 = .ok (.invokevirtual 53, 3) := by decide +kernel
theorem dX1_mark_67 : decode cX1_mark 67 = .ok (.ireturn, 1) := by decide +kernel
theorem dX1_mark_68 : decode cX1_mark 68 = .ok (.aload_n 0, 1) := by decide +kernel
theorem dX1_mark_69 : decode cX1_mark 69 = .ok (.aload_n 1, 1) := by decide +kernel
theorem dX1_mark_70 : decode cX1_mark 70 = .ok (.iload_n 2, 1) := by decide +kernel
theorem dX1_mark_71 : decode cX1_mark 71 = .ok (.invokevirtual 53, 3) := by decide +kernel
theorem dX1_mark_74 : decode cX1_mark 74 = .ok (.ireturn, 1) := by decide +kernel
theorem dX1_mark_75 : decode cX1_mark 75 = .ok (.aload_n 0, 1) := by decide +kernel
theorem dX1_mark_76 : decode cX1_mark 76 = .ok (.aload_n 1, 1) := by decide +kernel
theorem dX1_mark_77 : decode cX1_mark 77 = .ok (.iload_n 2, 1) := by decide +kernel
theorem dX1_mark_78 : decode cX1_mark 78 = .ok (.invokevirtual 56, 3) := by decide +kernel
theorem dX1_mark_81 : decode cX1_mark 81 = .ok (.ireturn, 1) := by decide +kernel
theorem dX1_body10_0 : decode cX1_body10 0 = .ok (.aload_n 0, 1) := by decide +kernel
theorem dX1_body10_1 : decode cX1_body10 1 = .ok (.bipush 10, 2) := by decide +kernel
theorem dX1_body10_3 : decode cX1_body10 3 = .ok (.invokevirtual 59, 3) := by decide +kernel
theorem dX1_body10_6 : decode cX1_body10 6 = .ok (.aload_n 1, 1) := by decide +kernel
theorem dX1_body10_7 : decode cX1_body10 7 = .ok (.getfield 63, 3) := by decide +kernel
theorem dX1_body10_10 : decode cX1_body10 10 = .ok (.iload_n 2, 1) := by decide +kernel
theorem dX1_body10_11 : decode cX1_body10 11 = .ok (.iaload, 1) := by decide +kernel
theorem dX1_body10_12 : decode cX1_body10 12 = .ok (.ireturn, 1) := by decide +kernel
theorem dX1_body11_0 : decode cX1_body11 0 = .ok (.aload_n 0, 1) := by decide +kernel
theorem dX1_body11_1 : decode cX1_body11 1 = .ok (.bipush 11, 2) := by decide +kernel
theorem dX1_body11_3 : decode cX1_body11 3 = .ok (.invokevirtual 59, 3) := by decide +kernel
theorem dX1_body11_6 : decode cX1_body11 6 = .ok (.aload_n 0, 1) := by decide +kernel
theorem dX1_body11_7 : decode cX1_body11 7 = .ok (.aload_n 1, 1) := by decide +kernel
theorem dX1_body11_8 : decode cX1_body11 8 = .ok (.iload_n 2, 1) := by decide +kernel
theorem dX1_body11_9 : decode cX1_body11 9 = .ok (.invokevirtual 41, 3) := by decide +kernel
theorem dX1_body11_12 : decode cX1_body11 12 = .ok (.aload_n 0, 1) := by decide +kernel
theorem dX1_body11_13 : decode cX1_body11 13 = .ok (.aload_n 1, 1) := by decide +kernel
theorem dX1_body11_14 : decode cX1_body11 14 = .ok (.iload_n 2, 1) := by decide +kernel
theorem dX1_body11_15 : decode cX1_body11 15 = .ok (.invokevirtual 66, 3) := by decide +kernel
theorem dX1_body11_18 : decode cX1_body11 18 = .ok (.iadd, 1) := by decide +kernel
theorem dX1_body11_19 : decode cX1_body11 19 = .ok (.ireturn, 1) := by decide +kernel
theorem dX1_body12_0 : decode cX1_body12 0 = .ok (.aload_n 0, 1) := by decide +kernel
theorem dX1_body12_1 : decode cX1_body12 1 = .ok (.bipush 12, 2) := by decide +kernel
theorem dX1_body12_3 : decode cX1_body12 3 = .ok (.invokevirtual 59, 3) := by decide +kernel
theorem dX1_body12_6 : decode cX1_body12 6 = .ok (.aload_n 0, 1) := by decide +kernel
theorem dX1_body12_7 : decode cX1_body12 7 = .ok (.aload_n 1, 1) := by decide +kernel
theorem dX1_body12_8 : decode cX1_body12 8 = .ok (.iload_n 2, 1) := by decide +kernel
theorem dX1_body12_9 : decode cX1_body12 9 = .ok (.invokevirtual 28, 3) := by decide +kernel
theorem dX1_body12_12 : decode cX1_body12 12 = .ok (.ineg, 1) := by decide +kernel
theorem dX1_body12_13 : decode cX1_body12 13 = .ok (.ireturn, 1) := by decide +kernel
theorem dX1_body13_0 : decode cX1_body13 0 = .ok (.aload_n 0, 1) := by decide +kernel
theorem dX1_body13_1 : decode cX1_body13 1 = .ok (.bipush 13, 2) := by decide +kernel
theorem dX1_body13_3 : decode cX1_body13 3 = .ok (.invokevirtual 59, 3) := by decide +kernel
theorem dX1_body13_6 : decode cX1_body13 6 = .ok (.aload_n 0, 1) := by decide +kernel
theorem dX1_body13_7 : decode cX1_body13 7 = .ok (.aload_n 1, 1) := by decide +kernel
theorem dX1_body13_8 : decode cX1_body13 8 = .ok (.iload_n 2, 1) := by decide +kernel
theorem dX1_body13_9 : decode cX1_body13 9 = .ok (.invokevirtual 41, 3) := by decide +kernel
theorem dX1_body13_12 : decode cX1_body13 12 = .ok (.bipush 100, 2) := by decide +kernel
theorem dX1_body13_14 : decode cX1_body13 14 = .ok (.isub, 1) := by decide +kernel
theorem dX1_body13_15 : decode cX1_body13 15 = .ok (.ireturn, 1) := by decide +kernel
theorem dX1_body14_0 : decode cX1_body14 0 = .ok (.aload_n 0, 1) := by decide +kernel
theorem dX1_body14_1 : decode cX1_body14 1 = .ok (.bipush 14, 2) := by decide +kernel
theorem dX1_body14_3 : decode cX1_body14 3 = .ok (.invokevirtual 59, 3) := by decide +kernel
theorem dX1_body14_6 : decode cX1_body14 6 = .ok (.iconst 2, 1) := by decide +kernel
theorem dX1_body14_7 : decode cX1_body14 7 = .ok (.aload_n 0, 1) := by decide +kernel
theorem dX1_body14_8 : decode cX1_body14 8 = .ok (.aload_n 1, 1) := by decide +kernel
theorem dX1_body14_9 : decode cX1_body14 9 = .ok (.iload_n 2, 1) := by decide +kernel
theorem dX1_body14_10 : decode cX1_body14 10 = .ok (.invokevirtual 35, 3) := by decide +kernel
theorem dX1_body14_13 : decode cX1_body14 13 = .ok (.imul, 1) := by decide +kernel
theorem dX1_body14_14 : decode cX1_body14 14 = .ok (.ireturn, 1) := by decide +kernel
theorem dX1_body20_0 : decode cX1_body20 0 = .ok (.aload_n 0, 1) := by decide +kernel
theorem dX1_body20_1 : decode cX1_body20 1 = .ok (.bipush 20, 2) := by decide +kernel
theorem dX1_body20_3 : decode cX1_body20 3 = .ok (.invokevirtual 59, 3) := by decide +kernel
theorem dX1_body20_6 : decode cX1_body20 6 = .ok (.iload_n 2, 1) := by decide +kernel
theorem dX1_body20_7 : decode cX1_body20 7 = .ok (.ireturn, 1) := by decide +kernel
theorem dX1_body21_0 : decode cX1_body21 0 = .ok (.aload_n 0, 1) := by decide +kernel
theorem dX1_body21_1 : decode cX1_body21 1 = .ok (.bipush 21, 2) := by decide +kernel
theorem dX1_body21_3 : decode cX1_body21 3 = .ok (.invokevirtual 59, 3) := by decide +kernel
theorem dX1_body21_6 : decode cX1_body21 6 = .ok (.aload_n 0, 1) := by decide +kernel
theorem dX1_body21_7 : decode cX1_body21 7 = .ok (.aload_n 1, 1) := by decide +kernel
theorem dX1_body21_8 : decode cX1_body21 8 = .ok (.iload_n 2, 1) := by decide +kernel
theorem dX1_body21_9 : decode cX1_body21 9 = .ok (.invokevirtual 56, 3) := by decide +kernel
theorem dX1_body21_12 : decode cX1_body21 12 = .ok (.aload_n 1, 1) := by decide +kernel
theorem dX1_body21_13 : decode cX1_body21 13 = .ok (.getfield 69, 3) := by decide +kernel
theorem dX1_body21_16 : decode cX1_body21 16 = .ok (.iload_n 2, 1) := by decide +kernel
theorem dX1_body21_17 : decode cX1_body21 17 = .ok (.iaload, 1) := by decide +kernel
theorem dX1_body21_18 : decode cX1_body21 18 = .ok (.iadd, 1) := by decide +kernel
theorem dX1_body21_19 : decode cX1_body21 19 = .ok (.ireturn, 1) := by decide +kernel
theorem dX1_body22_0 : decode cX1_body22 0 = .ok (.aload_n 0, 1) := by decide +kernel
theorem dX1_body22_1 : decode cX1_body22 1 = .ok (.bipush 22, 2) := by decide +kernel
theorem dX1_body22_3 : decode cX1_body22 3 = .ok (.invokevirtual 59, 3) := by decide +kernel
theorem dX1_body22_6 : decode cX1_body22 6 = .ok (.aload_n 0, 1) := by decide +kernel
theorem dX1_body22_7 : decode cX1_body22 7 = .ok (.aload_n 1, 1) := by decide +kernel
theorem dX1_body22_8 : decode cX1_body22 8 = .ok (.iload_n 2, 1) := by decide +kernel
theorem dX1_body22_9 : decode cX1_body22 9 = .ok (.invokevirtual 44, 3) := by decide +kernel
theorem dX1_body22_12 : decode cX1_body22 12 = .ok (.sipush 1000, 3) := by decide +kernel
theorem dX1_body22_15 : decode cX1_body22 15 = .ok (.isub, 1) := by decide +kernel
theorem dX1_body22_16 : decode cX1_body22 16 = .ok (.ireturn, 1) := by decide +kernel
theorem dX1_body23_0 : decode cX1_body23 0 = .ok (.aload_n 0, 1) := by decide +kernel
theorem dX1_body23_1 : decode cX1_body23 1 = .ok (.bipush 23, 2) := by decide +kernel
theorem dX1_body23_3 : decode cX1_body23 3 = .ok (.invokevirtual 59, 3) := by decide +kernel
theorem dX1_body23_6 : decode cX1_body23 6 = .ok (.aload_n 0, 1) := by decide +kernel
theorem dX1_body23_7 : decode cX1_body23 7 = .ok (.aload_n 1, 1) := by decide +kernel
theorem dX1_body23_8 : decode cX1_body23 8 = .ok (.iload_n 2, 1) := by decide +kernel
theorem dX1_body23_9 : decode cX1_body23 9 = .ok (.invokevirtual 56, 3) := by decide +kernel
theorem dX1_body23_12 : decode cX1_body23 12 = .ok (.aload_n 0, 1) := by decide +kernel
theorem dX1_body23_13 : decode cX1_body23 13 = .ok (.aload_n 1, 1) := by decide +kernel
theorem dX1_body23_14 : decode cX1_body23 14 = .ok (.iload_n 2, 1) := by decide +kernel
theorem dX1_body23_15 : decode cX1_body23 15 = .ok (.invokevirtual 72, 3) := by decide +kernel
theorem dX1_body23_18 : decode cX1_body23 18 = .ok (.isub, 1) := by decide +kernel
theorem dX1_body23_19 : decode cX1_body23 19 = .ok (.ireturn, 1) := by decide +kernel
theorem dX1_body24_0 : decode cX1_body24 0 = .ok (.aload_n 0, 1) := by decide +kernel
theorem dX1_body24_1 : decode cX1_body24 1 = .ok (.bipush 24, 2) := by decide +kernel
theorem dX1_body24_3 : decode cX1_body24 3 = .ok (.invokevirtual 59, 3) := by decide +kernel
theorem dX1_body24_6 : decode cX1_body24 6 = .ok (.iconst 2, 1) := by decide +kernel
theorem dX1_body24_7 : decode cX1_body24 7 = .ok (.aload_n 0, 1) := by decide +kernel
theorem dX1_body24_8 : decode cX1_body24 8 = .ok (.aload_n 1, 1) := by decide +kernel
theorem dX1_body24_9 : decode cX1_body24 9 = .ok (.iload_n 2, 1) := by decide +kernel
theorem dX1_body24_10 : decode cX1_body24 10 = .ok (.invokevirtual 44, 3) := by decide +kernel
theorem dX1_body24_13 : decode cX1_body24 13 = .ok (.imul, 1) := by decide +kernel
theorem dX1_body24_14 : decode cX1_body24 14 = .ok (.ireturn, 1) := by decide +kernel
theorem dX2_init_0 : decode cX2_init 0 = .ok (.aload_n 0, 1) := by decide +kernel
theorem dX2_init_1 : decode cX2_init 1 = .ok (.invokespecial 1, 3) := by decide +kernel
theorem dX2_init_4 : decode cX2_init 4 = .ok (.aload_n 0, 1) := by decide +kernel
theorem dX2_init_5 : decode cX2_init 5 = .ok (.bipush 8, 2) := by decide +kernel
theorem dX2_init_7 : decode cX2_init 7 = .ok (.bipush 40, 2) := by decide +kernel
theorem dX2_init_9 : decode cX2_init 9 = .ok (.multianewarray 9 2, 4) := by decide +kernel
theorem dX2_init_13 : decode cX2_init 13 = .ok (.putfield 11, 3) := by decide +kernel
theorem dX2_init_16 : decode cX2_init 16 = .ok (.aload_n 0, 1) := by decide +kernel
theorem dX2_init_17 : decode cX2_init 17 = .ok (.bipush 8, 2) := by decide +kernel
theorem dX2_init_19 : decode cX2_init 19 = .ok (.newarray .int, 2) := by decide +kernel
theorem dX2_init_21 : decode cX2_init 21 = .ok (.putfield 14, 3) := by decide +kernel
theorem dX2_init_24 : decode cX2_init 24 = .ok (.aload_n 0, 1) := by decide +kernel
theorem dX2_init_25 : decode cX2_init 25 = .ok (.bipush 8, 2) := by decide +kernel
theorem dX2_init_27 : decode cX2_init 27 = .ok (.newarray .int, 2) := by decide +kernel
theorem dX2_init_29 : decode cX2_init 29 = .ok (.putfield 18, 3) := by decide +kernel
theorem dX2_init_32 : decode cX2_init 32 = .ok (.aload_n 0, 1) := by decide +kernel
theorem dX2_init_33 : decode cX2_init 33 = .ok (.getfield 18, 3) := by decide +kernel
theorem dX2_init_36 : decode cX2_init 36 = .ok (.iconst (-1), 1) := by decide +kernel
theorem dX2_init_37 : decode cX2_init 37 = .ok (.invokestatic 21, 3) := by decide +kernel
theorem dX2_init_40 : decode cX2_init 40 = .ok (.return_, 1) := by decide +kernel
theorem dX2_isMissing_0 : decode cX2_isMissing 0 = .ok (.aload_n 0, 1) := by decide +kernel
theorem dX2_isMissing_1 : decode cX2_isMissing 1 = .ok (.getfield 18, 3) := by decide +kernel
theorem dX2_isMissing_4 : decode cX2_isMissing 4 = .ok (.iload_n 1, 1) := by decide +kernel
theorem dX2_isMissing_5 : decode cX2_isMissing 5 = .ok (.iaload, 1) := by decide +kernel
theorem dX2_isMissing_6 : decode cX2_isMissing 6 = .ok (.iconst (-1), 1) := by decide +kernel
theorem dX2_isMissing_7 : decode cX2_isMissing 7 = .ok (.if_icmp .ne 7, 3) := by decide +kernel
theorem dX2_isMissing_10 : decode cX2_isMissing 10 = .ok (.iconst 1, 1) := by decide +kernel
theorem dX2_isMissing_11 : decode cX2_isMissing 11 = .ok (.goto 4, 3) := by decide +kernel
theorem dX2_isMissing_14 : decode cX2_isMissing 14 = .ok (.iconst 0, 1) := by decide +kernel
theorem dX2_isMissing_15 : decode cX2_isMissing 15 = .ok (.ireturn, 1) := by decide +kernel
theorem dX2_laneOf_0 : decode cX2_laneOf 0 = .ok (.aload_n 0, 1) := by decide +kernel
theorem dX2_laneOf_1 : decode cX2_laneOf 1 = .ok (.getfield 14, 3) := by decide +kernel
theorem dX2_laneOf_4 : decode cX2_laneOf 4 = .ok (.iload_n 1, 1) := by decide +kernel
theorem dX2_laneOf_5 : decode cX2_laneOf 5 = .ok (.iaload, 1) := by decide +kernel
theorem dX2_laneOf_6 : decode cX2_laneOf 6 = .ok (.ireturn, 1) := by decide +kernel
theorem dX2_itemsOf_0 : decode cX2_itemsOf 0 = .ok (.aload_n 0, 1) := by decide +kernel
theorem dX2_itemsOf_1 : decode cX2_itemsOf 1 = .ok (.getfield 11, 3) := by decide +kernel
theorem dX2_itemsOf_4 : decode cX2_itemsOf 4 = .ok (.iload_n 1, 1) := by decide +kernel
theorem dX2_itemsOf_5 : decode cX2_itemsOf 5 = .ok (.aaload, 1) := by decide +kernel
theorem dX2_itemsOf_6 : decode cX2_itemsOf 6 = .ok (.areturn, 1) := by decide +kernel
theorem dX2_has_0 : decode cX2_has 0 = .ok (.iload_n 2, 1) := by decide +kernel
theorem dX2_has_1 : decode cX2_has 1 = .ok (.ifCond .lt 23, 3) := by decide +kernel
theorem dX2_has_4 : decode cX2_has 4 = .ok (.iload_n 3, 1) := by decide +kernel
theorem dX2_has_5 : decode cX2_has 5 = .ok (.ifCond .lt 19, 3) := by decide +kernel
theorem dX2_has_8 : decode cX2_has 8 = .ok (.iload_n 2, 1) := by decide +kernel
theorem dX2_has_9 : decode cX2_has 9 = .ok (.aload_n 0, 1) := by decide +kernel
theorem dX2_has_10 : decode cX2_has 10 = .ok (.getfield 18, 3) := by decide +kernel
theorem dX2_has_13 : decode cX2_has 13 = .ok (.iload_n 1, 1) := by decide +kernel
theorem dX2_has_14 : decode cX2_has 14 = .ok (.iaload, 1) := by decide +kernel
theorem dX2_has_15 : decode cX2_has 15 = .ok (.iload_n 3, 1) := by decide +kernel
theorem dX2_has_16 : decode cX2_has 16 = .ok (.isub, 1) := by decide +kernel
theorem dX2_has_17 : decode cX2_has 17 = .ok (.if_icmp .gt 7, 3) := by decide +kernel
theorem dX2_has_20 : decode cX2_has 20 = .ok (.iconst 1, 1) := by decide +kernel
theorem dX2_has_21 : decode cX2_has 21 = .ok (.goto 4, 3) := by decide +kernel
theorem dX2_has_24 : decode cX2_has 24 = .ok (.iconst 0, 1) := by decide +kernel
theorem dX2_has_25 : decode cX2_has 25 = .ok (.ireturn, 1) := by decide +kernel
theorem dX2_make_0 : decode cX2_make 0 = .ok (.aload_n 0, 1) := by decide +kernel
theorem dX2_make_1 : decode cX2_make 1 = .ok (.getfield 14, 3) := by decide +kernel
theorem dX2_make_4 : decode cX2_make 4 = .ok (.iload_n 1, 1) := by decide +kernel
theorem dX2_make_5 : decode cX2_make 5 = .ok (.iload_n 2, 1) := by decide +kernel
theorem dX2_make_6 : decode cX2_make 6 = .ok (.iastore, 1) := by decide +kernel
theorem dX2_make_7 : decode cX2_make 7 = .ok (.aload_n 0, 1) := by decide +kernel
theorem dX2_make_8 : decode cX2_make 8 = .ok (.getfield 18, 3) := by decide +kernel
theorem dX2_make_11 : decode cX2_make 11 = .ok (.iload_n 1, 1) := by decide +kernel
theorem dX2_make_12 : decode cX2_make 12 = .ok (.iload_n 3, 1) := by decide +kernel
theorem dX2_make_13 : decode cX2_make 13 = .ok (.iastore, 1) := by decide +kernel
theorem dX2_make_14 : decode cX2_make 14 = .ok (.aload_n 0, 1) := by decide +kernel
theorem dX2_make_15 : decode cX2_make 15 = .ok (.getfield 11, 3) := by decide +kernel
theorem dX2_make_18 : decode cX2_make 18 = .ok (.iload_n 1, 1) := by decide +kernel
theorem dX2_make_19 : decode cX2_make 19 = .ok (.aaload, 1) := by decide +kernel
theorem dX2_make_20 : decode cX2_make 20 = .ok (.iconst 0, 1) := by decide +kernel
theorem dX2_make_21 : decode cX2_make 21 = .ok (.invokestatic 21, 3) := by decide +kernel
theorem dX2_make_24 : decode cX2_make 24 = .ok (.return_, 1) := by decide +kernel
theorem dX2_put_0 : decode cX2_put 0 = .ok (.iload_n 3, 1) := by decide +kernel
theorem dX2_put_1 : decode cX2_put 1 = .ok (.istore 4, 2) := by decide +kernel
theorem dX2_put_3 : decode cX2_put 3 = .ok (.aload_n 0, 1) := by decide +kernel
theorem dX2_put_4 : decode cX2_put 4 = .ok (.getfield 14, 3) := by decide +kernel
theorem dX2_put_7 : decode cX2_put 7 = .ok (.iload_n 1, 1) := by decide +kernel
theorem dX2_put_8 : decode cX2_put 8 = .ok (.iaload, 1) := by decide +kernel
theorem dX2_put_9 : decode cX2_put 9 = .ok (.iconst 1, 1) := by decide +kernel
theorem dX2_put_10 : decode cX2_put 10 = .ok (.if_icmp .ge 10, 3) := by decide +kernel
theorem dX2_put_13 : decode cX2_put 13 = .ok (.iload_n 3, 1) := by decide +kernel
theorem dX2_put_14 : decode cX2_put 14 = .ok (.i2b, 1) := by decide +kernel
theorem dX2_put_15 : decode cX2_put 15 = .ok (.istore 4, 2) := by decide +kernel
theorem dX2_put_17 : decode cX2_put 17 = .ok (.goto 17, 3) := by decide +kernel
theorem dX2_put_20 : decode cX2_put 20 = .ok (.aload_n 0, 1) := by decide +kernel
theorem dX2_put_21 : decode cX2_put 21 = .ok (.getfield 14, 3) := by decide +kernel
theorem dX2_put_24 : decode cX2_put 24 = .ok (.iload_n 1, 1) := by decide +kernel
theorem dX2_put_25 : decode cX2_put 25 = .ok (.iaload, 1) := by decide +kernel
theorem dX2_put_26 : decode cX2_put 26 = .ok (.iconst 2, 1) := by decide +kernel
theorem dX2_put_27 : decode cX2_put 27 = .ok (.if_icmp .ge 7, 3) := by decide +kernel
theorem dX2_put_30 : decode cX2_put 30 = .ok (.iload_n 3, 1) := by decide +kernel
theorem dX2_put_31 : decode cX2_put 31 = .ok (.i2s, 1) := by decide +kernel
theorem dX2_put_32 : decode cX2_put 32 = .ok (.istore 4, 2) := by decide +kernel
theorem dX2_put_34 : decode cX2_put 34 = .ok (.aload_n 0, 1) := by decide +kernel
theorem dX2_put_35 : decode cX2_put 35 = .ok (.getfield 11, 3) := by decide +kernel
theorem dX2_put_38 : decode cX2_put 38 = .ok (.iload_n 1, 1) := by decide +kernel
theorem dX2_put_39 : decode cX2_put 39 = .ok (.aaload, 1) := by decide +kernel
theorem dX2_put_40 : decode cX2_put 40 = .ok (.iload_n 2, 1) := by decide +kernel
theorem dX2_put_41 : decode cX2_put 41 = .ok (.iload 4, 2) := by decide +kernel
theorem dX2_put_43 : decode cX2_put 43 = .ok (.iastore, 1) := by decide +kernel
theorem dX2_put_44 : decode cX2_put 44 = .ok (.iload 4, 2) := by decide +kernel
theorem dX2_put_46 : decode cX2_put 46 = .ok (.ireturn, 1) := by decide +kernel
theorem dX2_move_0 : decode cX2_move 0 = .ok (.aload_n 0, 1) := by decide +kernel
theorem dX2_move_1 : decode cX2_move 1 = .ok (.getfield 11, 3) := by decide +kernel
theorem dX2_move_4 : decode cX2_move 4 = .ok (.iload_n 1, 1) := by decide +kernel
theorem dX2_move_5 : decode cX2_move 5 = .ok (.aaload, 1) := by decide +kernel
theorem dX2_move_6 : decode cX2_move 6 = .ok (.iload_n 2, 1) := by decide +kernel
theorem dX2_move_7 : decode cX2_move 7 = .ok (.aload_n 0, 1) := by decide +kernel
theorem dX2_move_8 : decode cX2_move 8 = .ok (.getfield 11, 3) := by decide +kernel
theorem dX2_move_11 : decode cX2_move 11 = .ok (.iload_n 3, 1) := by decide +kernel
theorem dX2_move_12 : decode cX2_move 12 = .ok (.aaload, 1) := by decide +kernel
theorem dX2_move_13 : decode cX2_move 13 = .ok (.iload 4, 2) := by decide +kernel
theorem dX2_move_15 : decode cX2_move 15 = .ok (.iload 5, 2) := by decide +kernel
theorem dX2_move_17 : decode cX2_move 17 = .ok (.invokestatic 27, 3) := by decide +kernel
theorem dX2_move_20 : decode cX2_move 20 = .ok (.return_, 1) := by decide +kernel
theorem dX2_remove_0 : decode cX2_remove 0 = .ok (.aload_n 0, 1) := by decide +kernel
theorem dX2_remove_1 : decode cX2_remove 1 = .ok (.getfield 18, 3) := by decide +kernel
theorem dX2_remove_4 : decode cX2_remove 4 = .ok (.iload_n 1, 1) := by decide +kernel
theorem dX2_remove_5 : decode cX2_remove 5 = .ok (.iaload, 1) := by decide +kernel
theorem dX2_remove_6 : decode cX2_remove 6 = .ok (.istore_n 2, 1) := by decide +kernel
theorem dX2_remove_7 : decode cX2_remove 7 = .ok (.aload_n 0, 1) := by decide +kernel
theorem dX2_remove_8 : decode cX2_remove 8 = .ok (.getfield 18, 3) := by decide +kernel
theorem dX2_remove_11 : decode cX2_remove 11 = .ok (.iload_n 1, 1) := by decide +kernel
theorem dX2_remove_12 : decode cX2_remove 12 = .ok (.iconst (-1), 1) := by decide +kernel
theorem dX2_remove_13 : decode cX2_remove 13 = .ok (.iastore, 1) := by decide +kernel
theorem dX2_remove_14 : decode cX2_remove 14 = .ok (.iload_n 2, 1) := by decide +kernel
theorem dX2_remove_15 : decode cX2_remove 15 = .ok (.ireturn, 1) := by decide +kernel
theorem dX2_present_0 : decode cX2_present 0 = .ok (.iconst 0, 1) := by decide +kernel
theorem dX2_present_1 : decode cX2_present 1 = .ok (.istore_n 1, 1) := by decide +kernel
theorem dX2_present_2 : decode cX2_present 2 = .ok (.iconst 0, 1) := by decide +kernel
theorem dX2_present_3 : decode cX2_present 3 = .ok (.istore_n 2, 1) := by decide +kernel
theorem dX2_present_4 : decode cX2_present 4 = .ok (.iload_n 2, 1) := by decide +kernel
theorem dX2_present_5 : decode cX2_present 5 = .ok (.bipush 8, 2) := by decide +kernel
theorem dX2_present_7 : decode cX2_present 7 = .ok (.if_icmp .ge 20, 3) := by decide +kernel
theorem dX2_present_10 : decode cX2_present 10 = .ok (.aload_n 0, 1) := by decide +kernel
theorem dX2_present_11 : decode cX2_present 11 = .ok (.iload_n 2, 1) := by decide +kernel
theorem dX2_present_12 : decode cX2_present 12 = .ok (.invokevirtual 33, 3) := by decide +kernel
theorem dX2_present_15 : decode cX2_present 15 = .ok (.ifCond .ne 6, 3) := by decide +kernel
theorem dX2_present_18 : decode cX2_present 18 = .ok (.iinc 1 1, 3) := by decide +kernel
theorem dX2_present_21 : decode cX2_present 21 = .ok (.iinc 2 1, 3) := by decide +kernel
theorem dX2_present_24 : decode cX2_present 24 = .ok (.goto (-20), 3) := by decide +kernel
theorem dX2_present_27 : decode cX2_present 27 = .ok (.iload_n 1, 1) := by decide +kernel
theorem dX2_present_28 : decode cX2_present 28 = .ok (.ireturn, 1) := by decide +kernel
theorem dX3_init_0 : decode cX3_init 0 = .ok (.aload_n 0, 1) := by decide +kernel
theorem dX3_init_1 : decode cX3_init 1 = .ok (.invokespecial 3, 3) := by decide +kernel
theorem dX3_init_4 : decode cX3_init 4 = .ok (.aload_n 0, 1) := by decide +kernel
theorem dX3_init_5 : decode cX3_init 5 = .ok (.new 9, 3) := by decide +kernel
theorem dX3_init_8 : decode cX3_init 8 = .ok (.dup, 1) := by decide +kernel
theorem dX3_init_9 : decode cX3_init 9 = .ok (.invokespecial 11, 3) := by decide +kernel
theorem dX3_init_12 : decode cX3_init 12 = .ok (.putfield 12, 3) := by decide +kernel
theorem dX3_init_15 : decode cX3_init 15 = .ok (.aload_n 0, 1) := by decide +kernel
theorem dX3_init_16 : decode cX3_init 16 = .ok (.sipush 256, 3) := by decide +kernel
theorem dX3_init_19 : decode cX3_init 19 = .ok (.newarray .int, 2) := by decide +kernel
theorem dX3_init_21 : decode cX3_init 21 = .ok (.putfield 18, 3) := by decide +kernel
theorem dX3_init_24 : decode cX3_init 24 = .ok (.aload_n 0, 1) := by decide +kernel
theorem dX3_init_25 : decode cX3_init 25 = .ok (.sipush 256, 3) := by decide +kernel
theorem dX3_init_28 : decode cX3_init 28 = .ok (.newarray .int, 2) := by decide +kernel
theorem dX3_init_30 : decode cX3_init 30 = .ok (.putfield 22, 3) := by decide +kernel
theorem dX3_init_33 : decode cX3_init 33 = .ok (.aload_n 0, 1) := by decide +kernel
theorem dX3_init_34 : decode cX3_init 34 = .ok (.bipush 6, 2) := by decide +kernel
theorem dX3_init_36 : decode cX3_init 36 = .ok (.newarray .int, 2) := by decide +kernel
theorem dX3_init_38 : decode cX3_init 38 = .ok (.putfield 25, 3) := by decide +kernel
theorem dX3_init_41 : decode cX3_init 41 = .ok (.aload_n 0, 1) := by decide +kernel
theorem dX3_init_42 : decode cX3_init 42 = .ok (.bipush 6, 2) := by decide +kernel
theorem dX3_init_44 : decode cX3_init 44 = .ok (.newarray .int, 2) := by decide +kernel
theorem dX3_init_46 : decode cX3_init 46 = .ok (.putfield 28, 3) := by decide +kernel
theorem dX3_init_49 : decode cX3_init 49 = .ok (.aload_n 0, 1) := by decide +kernel
theorem dX3_init_50 : decode cX3_init 50 = .ok (.aconst_null, 1) := by decide +kernel
theorem dX3_init_51 : decode cX3_init 51 = .ok (.putfield 31, 3) := by decide +kernel
theorem dX3_init_54 : decode cX3_init 54 = .ok (.aload_n 0, 1) := by decide +kernel
theorem dX3_init_55 : decode cX3_init 55 = .ok (.iconst 0, 1) := by decide +kernel
theorem dX3_init_56 : decode cX3_init 56 = .ok (.putfield 34, 3) := by decide +kernel
theorem dX3_init_59 : decode cX3_init 59 = .ok (.aload_n 0, 1) := by decide +kernel
theorem dX3_init_60 : decode cX3_init 60 = .ok (.iconst 0, 1) := by decide +kernel
theorem dX3_init_61 : decode cX3_init 61 = .ok (.putfield 38, 3) := by decide +kernel
theorem dX3_init_64 : decode cX3_init 64 = .ok (.aload_n 0, 1) := by decide +kernel
theorem dX3_init_65 : decode cX3_init 65 = .ok (.iconst 0, 1) := by decide +kernel
theorem dX3_init_66 : decode cX3_init 66 = .ok (.putfield 41, 3) := by decide +kernel
theorem dX3_init_69 : decode cX3_init 69 = .ok (.aload_n 0, 1) := by decide +kernel
theorem dX3_init_70 : decode cX3_init 70 = .ok (.iconst 0, 1) := by decide +kernel
theorem dX3_init_71 : decode cX3_init 71 = .ok (.putfield 44, 3) := by decide +kernel
theorem dX3_init_74 : decode cX3_init 74 = .ok (.return_, 1) := by decide +kernel
theorem dX3_most_0 : decode cX3_most 0 = .ok (.aload_n 0, 1) := by decide +kernel
theorem dX3_most_1 : decode cX3_most 1 = .ok (.getfield 41, 3) := by decide +kernel
theorem dX3_most_4 : decode cX3_most 4 = .ok (.ireturn, 1) := by decide +kernel
theorem dX3_chosen_0 : decode cX3_chosen 0 = .ok (.aload_n 0, 1) := by decide +kernel
theorem dX3_chosen_1 : decode cX3_chosen 1 = .ok (.getfield 44, 3) := by decide +kernel
theorem dX3_chosen_4 : decode cX3_chosen 4 = .ok (.ireturn, 1) := by decide +kernel
theorem dX3_chosenAt_0 : decode cX3_chosenAt 0 = .ok (.iload_n 1, 1) := by decide +kernel
theorem dX3_chosenAt_1 : decode cX3_chosenAt 1 = .ok (.ifCond .lt 18, 3) := by decide +kernel
theorem dX3_chosenAt_4 : decode cX3_chosenAt 4 = .ok (.iload_n 1, 1) := by decide +kernel
theorem dX3_chosenAt_5 : decode cX3_chosenAt 5 = .ok (.bipush 6, 2) := by decide +kernel
theorem dX3_chosenAt_7 : decode cX3_chosenAt 7 = .ok (.if_icmp .ge 12, 3) := by decide +kernel
theorem dX3_chosenAt_10 : decode cX3_chosenAt 10 = .ok (.aload_n 0, 1) := by decide +kernel
theorem dX3_chosenAt_11 : decode cX3_chosenAt 11 = .ok (.getfield 28, 3) := by decide +kernel
theorem dX3_chosenAt_14 : decode cX3_chosenAt 14 = .ok (.iload_n 1, 1) := by decide +kernel
theorem dX3_chosenAt_15 : decode cX3_chosenAt 15 = .ok (.iaload, 1) := by decide +kernel
theorem dX3_chosenAt_16 : decode cX3_chosenAt 16 = .ok (.goto 5, 3) := by decide +kernel
theorem dX3_chosenAt_19 : decode cX3_chosenAt 19 = .ok (.ldc 47, 2) := by decide +kernel
theorem dX3_chosenAt_21 : decode cX3_chosenAt 21 = .ok (.ireturn, 1) := by decide +kernel
theorem dX3_behind_0 : decode cX3_behind 0 = .ok (.aload_n 0, 1) := by decide +kernel
theorem dX3_behind_1 : decode cX3_behind 1 = .ok (.getfield 12, 3) := by decide +kernel
theorem dX3_behind_4 : decode cX3_behind 4 = .ok (.aload_n 1, 1) := by decide +kernel
theorem dX3_behind_5 : decode cX3_behind 5 = .ok (.invokevirtual 48, 3) := by decide +kernel
theorem dX3_behind_8 : decode cX3_behind 8 = .ok (.aload_n 0, 1) := by decide +kernel
theorem dX3_behind_9 : decode cX3_behind 9 = .ok (.iload_n 2, 1) := by decide +kernel
theorem dX3_behind_10 : decode cX3_behind 10 = .ok (.invokevirtual 52, 3) := by decide +kernel
theorem dX3_behind_13 : decode cX3_behind 13 = .ok (.aload_n 0, 1) := by decide +kernel
theorem dX3_behind_14 : decode cX3_behind 14 = .ok (.getfield 12, 3) := by decide +kernel
theorem dX3_behind_17 : decode cX3_behind 17 = .ok (.areturn, 1) := by decide +kernel
theorem dX3_goOn_0 : decode cX3_goOn 0 = .ok (.iconst 0, 1) := by decide +kernel
theorem dX3_goOn_1 : decode cX3_goOn 1 = .ok (.istore_n 2, 1) := by decide +kernel
theorem dX3_goOn_2 : decode cX3_goOn 2 = .ok (.iload_n 2, 1) := by decide +kernel
theorem dX3_goOn_3 : decode cX3_goOn 3 = .ok (.iload_n 1, 1) := by decide +kernel
theorem dX3_goOn_4 : decode cX3_goOn 4 = .ok (.if_icmp .ge 26, 3) := by decide +kernel
theorem dX3_goOn_7 : decode cX3_goOn 7 = .ok (.aload_n 0, 1) := by decide +kernel
theorem dX3_goOn_8 : decode cX3_goOn 8 = .ok (.getfield 12, 3) := by decide +kernel
theorem dX3_goOn_11 : decode cX3_goOn 11 = .ok (.invokevirtual 56, 3) := by decide +kernel
theorem dX3_goOn_14 : decode cX3_goOn 14 = .ok (.ifCond .eq 16, 3) := by decide +kernel
theorem dX3_goOn_17 : decode cX3_goOn 17 = .ok (.aload_n 0, 1) := by decide +kernel
theorem dX3_goOn_18 : decode cX3_goOn 18 = .ok (.getfield 12, 3) := by decide +kernel
theorem dX3_goOn_21 : decode cX3_goOn 21 = .ok (.invokevirtual 60, 3) := by decide +kernel
theorem dX3_goOn_24 : decode cX3_goOn 24 = .ok (.iinc 2 1, 3) := by decide +kernel
theorem dX3_goOn_27 : decode cX3_goOn 27 = .ok (.goto (-25), 3) := by decide +kernel
theorem dX3_goOn_30 : decode cX3_goOn 30 = .ok (.return_, 1) := by decide +kernel
theorem dX3_ticksToTray_0 : decode cX3_ticksToTray 0 = .ok (.aload_n 0, 1) := by decide +kernel
theorem dX3_ticksToTray_1 : decode cX3_ticksToTray 1 = .ok (.getfield 12, 3) := by decide +kernel
theorem dX3_ticksToTray_4 : decode cX3_ticksToTray 4 = .ok (.aload_n 1, 1) := by decide +kernel
theorem dX3_ticksToTray_5 : decode cX3_ticksToTray 5 = .ok (.invokevirtual 48, 3) := by decide +kernel
theorem dX3_ticksToTray_8 : decode cX3_ticksToTray 8 = .ok (.iconst 0, 1) := by decide +kernel
theorem dX3_ticksToTray_9 : decode cX3_ticksToTray 9 = .ok (.istore 4, 2) := by decide +kernel
theorem dX3_ticksToTray_11 : decode cX3_ticksToTray 11 = .ok (.iload 4, 2) := by decide +kernel
theorem dX3_ticksToTray_13 : decode cX3_ticksToTray 13 = .ok (.iload_n 3, 1) := by decide +kernel
theorem dX3_ticksToTray_14 : decode cX3_ticksToTray 14 = .ok (.if_icmp .gt 30, 3) := by decide +kernel
theorem dX3_ticksToTray_17 : decode cX3_ticksToTray 17 = .ok (.aload_n 0, 1) := by decide +kernel
theorem dX3_ticksToTray_18 : decode cX3_ticksToTray 18 = .ok (.getfield 12, 3) := by decide +kernel
theorem dX3_ticksToTray_21 : decode cX3_ticksToTray 21 = .ok (.iload_n 2, 1) := by decide +kernel
theorem dX3_ticksToTray_22 : decode cX3_ticksToTray 22 = .ok (.invokevirtual 63, 3) := by decide +kernel
theorem dX3_ticksToTray_25 : decode cX3_ticksToTray 25 = .ok (.ifCond .eq 6, 3) := by decide +kernel
theorem dX3_ticksToTray_28 : decode cX3_ticksToTray 28 = .ok (.iload 4, 2) := by decide +kernel
theorem dX3_ticksToTray_30 : decode cX3_ticksToTray 30 = .ok (.ireturn, 1) := by decide +kernel
theorem dX3_ticksToTray_31 : decode cX3_ticksToTray 31 = .ok (.aload_n 0, 1) := by decide +kernel
theorem dX3_ticksToTray_32 : decode cX3_ticksToTray 32 = .ok (.getfield 12, 3) := by decide +kernel
theorem dX3_ticksToTray_35 : decode cX3_ticksToTray 35 = .ok (.invokevirtual 60, 3) := by decide +kernel
theorem dX3_ticksToTray_38 : decode cX3_ticksToTray 38 = .ok (.iinc 4 1, 3) := by decide +kernel
theorem dX3_ticksToTray_41 : decode cX3_ticksToTray 41 = .ok (.goto (-30), 3) := by decide +kernel
theorem dX3_ticksToTray_44 : decode cX3_ticksToTray 44 = .ok (.ldc 47, 2) := by decide +kernel
theorem dX3_ticksToTray_46 : decode cX3_ticksToTray 46 = .ok (.ireturn, 1) := by decide +kernel
theorem dX3_ticksToRest_0 : decode cX3_ticksToRest 0 = .ok (.aload_n 0, 1) := by decide +kernel
theorem dX3_ticksToRest_1 : decode cX3_ticksToRest 1 = .ok (.getfield 12, 3) := by decide +kernel
theorem dX3_ticksToRest_4 : decode cX3_ticksToRest 4 = .ok (.aload_n 1, 1) := by decide +kernel
theorem dX3_ticksToRest_5 : decode cX3_ticksToRest 5 = .ok (.invokevirtual 48, 3) := by decide +kernel
theorem dX3_ticksToRest_8 : decode cX3_ticksToRest 8 = .ok (.iconst 0, 1) := by decide +kernel
theorem dX3_ticksToRest_9 : decode cX3_ticksToRest 9 = .ok (.istore_n 3, 1) := by decide +kernel
theorem dX3_ticksToRest_10 : decode cX3_ticksToRest 10 = .ok (.iload_n 3, 1) := by decide +kernel
theorem dX3_ticksToRest_11 : decode cX3_ticksToRest 11 = .ok (.iload_n 2, 1) := by decide +kernel
theorem dX3_ticksToRest_12 : decode cX3_ticksToRest 12 = .ok (.if_icmp .gt 28, 3) := by decide +kernel
theorem dX3_ticksToRest_15 : decode cX3_ticksToRest 15 = .ok (.aload_n 0, 1) := by decide +kernel
theorem dX3_ticksToRest_16 : decode cX3_ticksToRest 16 = .ok (.getfield 12, 3) := by decide +kernel
theorem dX3_ticksToRest_19 : decode cX3_ticksToRest 19 = .ok (.invokevirtual 56, 3) := by decide +kernel
theorem dX3_ticksToRest_22 : decode cX3_ticksToRest 22 = .ok (.ifCond .ne 5, 3) := by decide +kernel
theorem dX3_ticksToRest_25 : decode cX3_ticksToRest 25 = .ok (.iload_n 3, 1) := by decide +kernel
theorem dX3_ticksToRest_26 : decode cX3_ticksToRest 26 = .ok (.ireturn, 1) := by decide +kernel
theorem dX3_ticksToRest_27 : decode cX3_ticksToRest 27 = .ok (.aload_n 0, 1) := by decide +kernel
theorem dX3_ticksToRest_28 : decode cX3_ticksToRest 28 = .ok (.getfield 12, 3) := by decide +kernel
theorem dX3_ticksToRest_31 : decode cX3_ticksToRest 31 = .ok (.invokevirtual 60, 3) := by decide +kernel
theorem dX3_ticksToRest_34 : decode cX3_ticksToRest 34 = .ok (.iinc 3 1, 3) := by decide +kernel
theorem dX3_ticksToRest_37 : decode cX3_ticksToRest 37 = .ok (.goto (-27), 3) := by decide +kernel
theorem dX3_ticksToRest_40 : decode cX3_ticksToRest 40 = .ok (.ldc 47, 2) := by decide +kernel
theorem dX3_ticksToRest_42 : decode cX3_ticksToRest 42 = .ok (.ireturn, 1) := by decide +kernel
theorem dX3_chooseTips_0 : decode cX3_chooseTips 0 = .ok (.aload_n 1, 1) := by decide +kernel
theorem dX3_chooseTips_1 : decode cX3_chooseTips 1 = .ok (.invokevirtual 67, 3) := by decide +kernel
theorem dX3_chooseTips_4 : decode cX3_chooseTips 4 = .ok (.istore_n 3, 1) := by decide +kernel
theorem dX3_chooseTips_5 : decode cX3_chooseTips 5 = .ok (.aload_n 0, 1) := by decide +kernel
theorem dX3_chooseTips_6 : decode cX3_chooseTips 6 = .ok (.iconst (-1), 1) := by decide +kernel
theorem dX3_chooseTips_7 : decode cX3_chooseTips 7 = .ok (.putfield 41, 3) := by decide +kernel
theorem dX3_chooseTips_10 : decode cX3_chooseTips 10 = .ok (.aload_n 0, 1) := by decide +kernel
theorem dX3_chooseTips_11 : decode cX3_chooseTips 11 = .ok (.iconst 0, 1) := by decide +kernel
theorem dX3_chooseTips_12 : decode cX3_chooseTips 12 = .ok (.putfield 44, 3) := by decide +kernel
theorem dX3_chooseTips_15 : decode cX3_chooseTips 15 = .ok (.iconst 0, 1) := by decide +kernel
theorem dX3_chooseTips_16 : decode cX3_chooseTips 16 = .ok (.istore 4, 2) := by decide +kernel
theorem dX3_chooseTips_18 : decode cX3_chooseTips 18 = .ok (.iload 4, 2) := by decide +kernel
theorem dX3_chooseTips_20 : decode cX3_chooseTips 20 = .ok (.iload_n 3, 1) := by decide +kernel
theorem dX3_chooseTips_21 : decode cX3_chooseTips 21 = .ok (.if_icmp .gt 55, 3) := by decide +kernel
theorem dX3_chooseTips_24 : decode cX3_chooseTips 24 = .ok (.iload 4, 2) := by decide +kernel
theorem dX3_chooseTips_26 : decode cX3_chooseTips 26 = .ok (.iload_n 3, 1) := by decide +kernel
theorem dX3_chooseTips_27 : decode cX3_chooseTips 27 = .ok (.iconst (-1), 1) := by decide +kernel
theorem dX3_chooseTips_28 : decode cX3_chooseTips 28 = .ok (.ixor, 1) := by decide +kernel
theorem dX3_chooseTips_29 : decode cX3_chooseTips 29 = .ok (.iand, 1) := by decide +kernel
theorem dX3_chooseTips_30 : decode cX3_chooseTips 30 = .ok (.ifCond .ne 40, 3) := by decide +kernel
theorem dX3_chooseTips_33 : decode cX3_chooseTips 33 = .ok (.aload_n 0, 1) := by decide +kernel
theorem dX3_chooseTips_34 : decode cX3_chooseTips 34 = .ok (.getfield 12, 3) := by decide +kernel
theorem dX3_chooseTips_37 : decode cX3_chooseTips 37 = .ok (.aload_n 1, 1) := by decide +kernel
theorem dX3_chooseTips_38 : decode cX3_chooseTips 38 = .ok (.invokevirtual 48, 3) := by decide +kernel
theorem dX3_chooseTips_41 : decode cX3_chooseTips 41 = .ok (.aload_n 0, 1) := by decide +kernel
theorem dX3_chooseTips_42 : decode cX3_chooseTips 42 = .ok (.getfield 12, 3) := by decide +kernel
theorem dX3_chooseTips_45 : decode cX3_chooseTips 45 = .ok (.iload 4, 2) := by decide +kernel
theorem dX3_chooseTips_47 : decode cX3_chooseTips 47 = .ok (.invokevirtual 71, 3) := by decide +kernel
theorem dX3_chooseTips_50 : decode cX3_chooseTips 50 = .ok (.aload_n 0, 1) := by decide +kernel
theorem dX3_chooseTips_51 : decode cX3_chooseTips 51 = .ok (.iload_n 2, 1) := by decide +kernel
theorem dX3_chooseTips_52 : decode cX3_chooseTips 52 = .ok (.invokevirtual 52, 3) := by decide +kernel
theorem dX3_chooseTips_55 : decode cX3_chooseTips 55 = .ok (.aload_n 0, 1) := by decide +kernel
theorem dX3_chooseTips_56 : decode cX3_chooseTips 56 = .ok (.iload 4, 2) := by decide +kernel
theorem dX3_chooseTips_58 : decode cX3_chooseTips 58 = .ok (.aload_n 0, 1) := by decide +kernel
theorem dX3_chooseTips_59 : decode cX3_chooseTips 59 = .ok (.getfield 12, 3) := by decide +kernel
theorem dX3_chooseTips_62 : decode cX3_chooseTips 62 = .ok (.bipush 9, 2) := by decide +kernel
theorem dX3_chooseTips_64 : decode cX3_chooseTips 64 = .ok (.invokevirtual 74, 3) := by decide +kernel
theorem dX3_chooseTips_67 : decode cX3_chooseTips 67 = .ok (.invokevirtual 78, 3) := by decide +kernel
theorem dX3_chooseTips_70 : decode cX3_chooseTips 70 = .ok (.iinc 4 1, 3) := by decide +kernel
theorem dX3_chooseTips_73 : decode cX3_chooseTips 73 = .ok (.goto (-55), 3) := by decide +kernel
theorem dX3_chooseTips_76 : decode cX3_chooseTips 76 = .ok (.return_, 1) := by decide +kernel
theorem dX3_preferTips_0 : decode cX3_preferTips 0 = .ok (.iload_n 1, 1) := by decide +kernel
theorem dX3_preferTips_1 : decode cX3_preferTips 1 = .ok (.invokestatic 82, 3) := by decide +kernel
theorem dX3_preferTips_4 : decode cX3_preferTips 4 = .ok (.aload_n 0, 1) := by decide +kernel
theorem dX3_preferTips_5 : decode cX3_preferTips 5 = .ok (.getfield 44, 3) := by decide +kernel
theorem dX3_preferTips_8 : decode cX3_preferTips 8 = .ok (.invokestatic 82, 3) := by decide +kernel
theorem dX3_preferTips_11 : decode cX3_preferTips 11 = .ok (.if_icmp .ge 7, 3) := by decide +kernel
theorem dX3_preferTips_14 : decode cX3_preferTips 14 = .ok (.iconst 1, 1) := by decide +kernel
theorem dX3_preferTips_15 : decode cX3_preferTips 15 = .ok (.goto 4, 3) := by decide +kernel
theorem dX3_preferTips_18 : decode cX3_preferTips 18 = .ok (.iconst 0, 1) := by decide +kernel
theorem dX3_preferTips_19 : decode cX3_preferTips 19 = .ok (.istore_n 3, 1) := by decide +kernel
theorem dX3_preferTips_20 : decode cX3_preferTips 20 = .ok (.iload_n 2, 1) := by decide +kernel
theorem dX3_preferTips_21 : decode cX3_preferTips 21 = .ok (.aload_n 0, 1) := by decide +kernel
theorem dX3_preferTips_22 : decode cX3_preferTips 22 = .ok (.getfield 41, 3) := by decide +kernel
theorem dX3_preferTips_25 : decode cX3_preferTips 25 = .ok (.if_icmp .gt 15, 3) := by decide +kernel
theorem dX3_preferTips_28 : decode cX3_preferTips 28 = .ok (.iload_n 2, 1) := by decide +kernel
theorem dX3_preferTips_29 : decode cX3_preferTips 29 = .ok (.aload_n 0, 1) := by decide +kernel
theorem dX3_preferTips_30 : decode cX3_preferTips 30 = .ok (.getfield 41, 3) := by decide +kernel
theorem dX3_preferTips_33 : decode cX3_preferTips 33 = .ok (.if_icmp .ne 17, 3) := by decide +kernel
theorem dX3_preferTips_36 : decode cX3_preferTips 36 = .ok (.iload_n 3, 1) := by decide +kernel
theorem dX3_preferTips_37 : decode cX3_preferTips 37 = .ok (.ifCond .eq 13, 3) := by decide +kernel
theorem dX3_preferTips_40 : decode cX3_preferTips 40 = .ok (.aload_n 0, 1) := by decide +kernel
theorem dX3_preferTips_41 : decode cX3_preferTips 41 = .ok (.iload_n 2, 1) := by decide +kernel
theorem dX3_preferTips_42 : decode cX3_preferTips 42 = .ok (.putfield 41, 3) := by decide +kernel
theorem dX3_preferTips_45 : decode cX3_preferTips 45 = .ok (.aload_n 0, 1) := by decide +kernel
theorem dX3_preferTips_46 : decode cX3_preferTips 46 = .ok (.iload_n 1, 1) := by decide +kernel
theorem dX3_preferTips_47 : decode cX3_preferTips 47 = .ok (.putfield 44, 3) := by decide +kernel
theorem dX3_preferTips_50 : decode cX3_preferTips 50 = .ok (.return_, 1) := by decide +kernel
theorem dX3_chooseLead_0 : decode cX3_chooseLead 0 = .ok (.aload_n 0, 1) := by decide +kernel
theorem dX3_chooseLead_1 : decode cX3_chooseLead 1 = .ok (.iconst (-1), 1) := by decide +kernel
theorem dX3_chooseLead_2 : decode cX3_chooseLead 2 = .ok (.putfield 41, 3) := by decide +kernel
theorem dX3_chooseLead_5 : decode cX3_chooseLead 5 = .ok (.aload_n 0, 1) := by decide +kernel
theorem dX3_chooseLead_6 : decode cX3_chooseLead 6 = .ok (.bipush 9, 2) := by decide +kernel
theorem dX3_chooseLead_8 : decode cX3_chooseLead 8 = .ok (.putfield 44, 3) := by decide +kernel
theorem dX3_chooseLead_11 : decode cX3_chooseLead 11 = .ok (.iload_n 2, 1) := by decide +kernel
theorem dX3_chooseLead_12 : decode cX3_chooseLead 12 = .ok (.iconst 1, 1) := by decide +kernel
theorem dX3_chooseLead_13 : decode cX3_chooseLead 13 = .ok (.iadd, 1) := by decide +kernel
theorem dX3_chooseLead_14 : decode cX3_chooseLead 14 = .ok (.istore 4, 2) := by decide +kernel
theorem dX3_chooseLead_16 : decode cX3_chooseLead 16 = .ok (.iload 4, 2) := by decide +kernel
theorem dX3_chooseLead_18 : decode cX3_chooseLead 18 = .ok (.bipush 9, 2) := by decide +kernel
theorem dX3_chooseLead_20 : decode cX3_chooseLead 20 = .ok (.if_icmp .gt 65, 3) := by decide +kernel
theorem dX3_chooseLead_23 : decode cX3_chooseLead 23 = .ok (.aload_n 0, 1) := by decide +kernel
theorem dX3_chooseLead_24 : decode cX3_chooseLead 24 = .ok (.getfield 12, 3) := by decide +kernel
theorem dX3_chooseLead_27 : decode cX3_chooseLead 27 = .ok (.aload_n 1, 1) := by decide +kernel
theorem dX3_chooseLead_28 : decode cX3_chooseLead 28 = .ok (.invokevirtual 48, 3) := by decide +kernel
theorem dX3_chooseLead_31 : decode cX3_chooseLead 31 = .ok (.aload_n 0, 1) := by decide +kernel
theorem dX3_chooseLead_32 : decode cX3_chooseLead 32 = .ok (.getfield 12, 3) := by decide +kernel
theorem dX3_chooseLead_35 : decode cX3_chooseLead 35 = .ok (.getfield 87, 3) := by decide +kernel
theorem dX3_chooseLead_38 : decode cX3_chooseLead 38 = .ok (.iload_n 2, 1) := by decide +kernel
theorem dX3_chooseLead_39 : decode cX3_chooseLead 39 = .ok (.iload 4, 2) := by decide +kernel
theorem dX3_chooseLead_41 : decode cX3_chooseLead 41 = .ok (.iastore, 1) := by decide +kernel
theorem dX3_chooseLead_42 : decode cX3_chooseLead 42 = .ok (.aload_n 0, 1) := by decide +kernel
theorem dX3_chooseLead_43 : decode cX3_chooseLead 43 = .ok (.iload_n 3, 1) := by decide +kernel
theorem dX3_chooseLead_44 : decode cX3_chooseLead 44 = .ok (.invokevirtual 52, 3) := by decide +kernel
theorem dX3_chooseLead_47 : decode cX3_chooseLead 47 = .ok (.aload_n 0, 1) := by decide +kernel
theorem dX3_chooseLead_48 : decode cX3_chooseLead 48 = .ok (.getfield 12, 3) := by decide +kernel
theorem dX3_chooseLead_51 : decode cX3_chooseLead 51 = .ok (.bipush 9, 2) := by decide +kernel
theorem dX3_chooseLead_53 : decode cX3_chooseLead 53 = .ok (.invokevirtual 74, 3) := by decide +kernel
theorem dX3_chooseLead_56 : decode cX3_chooseLead 56 = .ok (.istore 5, 2) := by decide +kernel
theorem dX3_chooseLead_58 : decode cX3_chooseLead 58 = .ok (.iload 5, 2) := by decide +kernel
theorem dX3_chooseLead_60 : decode cX3_chooseLead 60 = .ok (.aload_n 0, 1) := by decide +kernel
theorem dX3_chooseLead_61 : decode cX3_chooseLead 61 = .ok (.getfield 41, 3) := by decide +kernel
theorem dX3_chooseLead_64 : decode cX3_chooseLead 64 = .ok (.if_icmp .le 15, 3) := by decide +kernel
theorem dX3_chooseLead_67 : decode cX3_chooseLead 67 = .ok (.aload_n 0, 1) := by decide +kernel
theorem dX3_chooseLead_68 : decode cX3_chooseLead 68 = .ok (.iload 5, 2) := by decide +kernel
theorem dX3_chooseLead_70 : decode cX3_chooseLead 70 = .ok (.putfield 41, 3) := by decide +kernel
theorem dX3_chooseLead_73 : decode cX3_chooseLead 73 = .ok (.aload_n 0, 1) := by decide +kernel
theorem dX3_chooseLead_74 : decode cX3_chooseLead 74 = .ok (.iload 4, 2) := by decide +kernel
theorem dX3_chooseLead_76 : decode cX3_chooseLead 76 = .ok (.putfield 44, 3) := by decide +kernel
theorem dX3_chooseLead_79 : decode cX3_chooseLead 79 = .ok (.iinc 4 1, 3) := by decide +kernel
theorem dX3_chooseLead_82 : decode cX3_chooseLead 82 = .ok (.goto (-66), 3) := by decide +kernel
theorem dX3_chooseLead_85 : decode cX3_chooseLead 85 = .ok (.return_, 1) := by decide +kernel
theorem dX3_chooseOrder_0 : decode cX3_chooseOrder 0 = .ok (.aload_n 0, 1) := by decide +kernel
theorem dX3_chooseOrder_1 : decode cX3_chooseOrder 1 = .ok (.iconst (-1), 1) := by decide +kernel
theorem dX3_chooseOrder_2 : decode cX3_chooseOrder 2 = .ok (.putfield 41, 3) := by decide +kernel
theorem dX3_chooseOrder_5 : decode cX3_chooseOrder 5 = .ok (.iconst 0, 1) := by decide +kernel
theorem dX3_chooseOrder_6 : decode cX3_chooseOrder 6 = .ok (.istore_n 3, 1) := by decide +kernel
theorem dX3_chooseOrder_7 : decode cX3_chooseOrder 7 = .ok (.iload_n 3, 1) := by decide +kernel
theorem dX3_chooseOrder_8 : decode cX3_chooseOrder 8 = .ok (.aload_n 1, 1) := by decide +kernel
theorem dX3_chooseOrder_9 : decode cX3_chooseOrder 9 = .ok (.getfield 90, 3) := by decide +kernel
theorem dX3_chooseOrder_12 : decode cX3_chooseOrder 12 = .ok (.if_icmp .ge 16, 3) := by decide +kernel
theorem dX3_chooseOrder_15 : decode cX3_chooseOrder 15 = .ok (.aload_n 0, 1) := by decide +kernel
theorem dX3_chooseOrder_16 : decode cX3_chooseOrder 16 = .ok (.getfield 25, 3) := by decide +kernel
theorem dX3_chooseOrder_19 : decode cX3_chooseOrder 19 = .ok (.iload_n 3, 1) := by decide +kernel
theorem dX3_chooseOrder_20 : decode cX3_chooseOrder 20 = .ok (.iload_n 3, 1) := by decide +kernel
theorem dX3_chooseOrder_21 : decode cX3_chooseOrder 21 = .ok (.iastore, 1) := by decide +kernel
theorem dX3_chooseOrder_22 : decode cX3_chooseOrder 22 = .ok (.iinc 3 1, 3) := by decide +kernel
theorem dX3_chooseOrder_25 : decode cX3_chooseOrder 25 = .ok (.goto (-18), 3) := by decide +kernel
theorem dX3_chooseOrder_28 : decode cX3_chooseOrder 28 = .ok (.iconst 1, 1) := by decide +kernel
theorem dX3_chooseOrder_29 : decode cX3_chooseOrder 29 = .ok (.istore_n 3, 1) := by decide +kernel
theorem dX3_chooseOrder_30 : decode cX3_chooseOrder 30 = .ok (.iconst 0, 1) := by decide +kernel
theorem dX3_chooseOrder_31 : decode cX3_chooseOrder 31 = .ok (.istore 4, 2) := by decide +kernel
theorem dX3_chooseOrder_33 : decode cX3_chooseOrder 33 = .ok (.iload 4, 2) := by decide +kernel
theorem dX3_chooseOrder_35 : decode cX3_chooseOrder 35 = .ok (.sipush 720, 3) := by decide +kernel
theorem dX3_chooseOrder_38 : decode cX3_chooseOrder 38 = .ok (.if_icmp .ge 36, 3) := by decide +kernel
theorem dX3_chooseOrder_41 : decode cX3_chooseOrder 41 = .ok (.iload_n 3, 1) := by decide +kernel
theorem dX3_chooseOrder_42 : decode cX3_chooseOrder 42 = .ok (.ifCond .eq 32, 3) := by decide +kernel
theorem dX3_chooseOrder_45 : decode cX3_chooseOrder 45 = .ok (.aload_n 0, 1) := by decide +kernel
theorem dX3_chooseOrder_46 : decode cX3_chooseOrder 46 = .ok (.aload_n 1, 1) := by decide +kernel
theorem dX3_chooseOrder_47 : decode cX3_chooseOrder 47 = .ok (.invokevirtual 93, 3) := by decide +kernel
theorem dX3_chooseOrder_50 : decode cX3_chooseOrder 50 = .ok (.ifCond .eq 9, 3) := by decide +kernel
theorem dX3_chooseOrder_53 : decode cX3_chooseOrder 53 = .ok (.aload_n 0, 1) := by decide +kernel
theorem dX3_chooseOrder_54 : decode cX3_chooseOrder 54 = .ok (.aload_n 1, 1) := by decide +kernel
theorem dX3_chooseOrder_55 : decode cX3_chooseOrder 55 = .ok (.iload_n 2, 1) := by decide +kernel
theorem dX3_chooseOrder_56 : decode cX3_chooseOrder 56 = .ok (.invokevirtual 97, 3) := by decide +kernel
theorem dX3_chooseOrder_59 : decode cX3_chooseOrder 59 = .ok (.aload_n 0, 1) := by decide +kernel
theorem dX3_chooseOrder_60 : decode cX3_chooseOrder 60 = .ok (.aload_n 1, 1) := by decide +kernel
theorem dX3_chooseOrder_61 : decode cX3_chooseOrder 61 = .ok (.getfield 90, 3) := by decide +kernel
theorem dX3_chooseOrder_64 : decode cX3_chooseOrder 64 = .ok (.invokevirtual 101, 3) := by decide +kernel
theorem dX3_chooseOrder_67 : decode cX3_chooseOrder 67 = .ok (.istore_n 3, 1) := by decide +kernel
theorem dX3_chooseOrder_68 : decode cX3_chooseOrder 68 = .ok (.iinc 4 1, 3) := by decide +kernel
theorem dX3_chooseOrder_71 : decode cX3_chooseOrder 71 = .ok (.goto (-38), 3) := by decide +kernel
theorem dX3_chooseOrder_74 : decode cX3_chooseOrder 74 = .ok (.return_, 1) := by decide +kernel
theorem dX3_tryOrder_0 : decode cX3_tryOrder 0 = .ok (.aload_n 0, 1) := by decide +kernel
theorem dX3_tryOrder_1 : decode cX3_tryOrder 1 = .ok (.getfield 12, 3) := by decide +kernel
theorem dX3_tryOrder_4 : decode cX3_tryOrder 4 = .ok (.aload_n 1, 1) := by decide +kernel
theorem dX3_tryOrder_5 : decode cX3_tryOrder 5 = .ok (.invokevirtual 48, 3) := by decide +kernel
theorem dX3_tryOrder_8 : decode cX3_tryOrder 8 = .ok (.iconst 0, 1) := by decide +kernel
theorem dX3_tryOrder_9 : decode cX3_tryOrder 9 = .ok (.istore_n 3, 1) := by decide +kernel
theorem dX3_tryOrder_10 : decode cX3_tryOrder 10 = .ok (.iload_n 3, 1) := by decide +kernel
theorem dX3_tryOrder_11 : decode cX3_tryOrder 11 = .ok (.aload_n 1, 1) := by decide +kernel
theorem dX3_tryOrder_12 : decode cX3_tryOrder 12 = .ok (.getfield 90, 3) := by decide +kernel
theorem dX3_tryOrder_15 : decode cX3_tryOrder 15 = .ok (.if_icmp .ge 29, 3) := by decide +kernel
theorem dX3_tryOrder_18 : decode cX3_tryOrder 18 = .ok (.aload_n 0, 1) := by decide +kernel
theorem dX3_tryOrder_19 : decode cX3_tryOrder 19 = .ok (.getfield 12, 3) := by decide +kernel
theorem dX3_tryOrder_22 : decode cX3_tryOrder 22 = .ok (.getfield 104, 3) := by decide +kernel
theorem dX3_tryOrder_25 : decode cX3_tryOrder 25 = .ok (.iload_n 3, 1) := by decide +kernel
theorem dX3_tryOrder_26 : decode cX3_tryOrder 26 = .ok (.aload_n 1, 1) := by decide +kernel
theorem dX3_tryOrder_27 : decode cX3_tryOrder 27 = .ok (.getfield 104, 3) := by decide +kernel
theorem dX3_tryOrder_30 : decode cX3_tryOrder 30 = .ok (.aload_n 0, 1) := by decide +kernel
theorem dX3_tryOrder_31 : decode cX3_tryOrder 31 = .ok (.getfield 25, 3) := by decide +kernel
theorem dX3_tryOrder_34 : decode cX3_tryOrder 34 = .ok (.iload_n 3, 1) := by decide +kernel
theorem dX3_tryOrder_35 : decode cX3_tryOrder 35 = .ok (.iaload, 1) := by decide +kernel
theorem dX3_tryOrder_36 : decode cX3_tryOrder 36 = .ok (.iaload, 1) := by decide +kernel
theorem dX3_tryOrder_37 : decode cX3_tryOrder 37 = .ok (.iastore, 1) := by decide +kernel
theorem dX3_tryOrder_38 : decode cX3_tryOrder 38 = .ok (.iinc 3 1, 3) := by decide +kernel
theorem dX3_tryOrder_41 : decode cX3_tryOrder 41 = .ok (.goto (-31), 3) := by decide +kernel
theorem dX3_tryOrder_44 : decode cX3_tryOrder 44 = .ok (.aload_n 0, 1) := by decide +kernel
theorem dX3_tryOrder_45 : decode cX3_tryOrder 45 = .ok (.iload_n 2, 1) := by decide +kernel
theorem dX3_tryOrder_46 : decode cX3_tryOrder 46 = .ok (.invokevirtual 52, 3) := by decide +kernel
theorem dX3_tryOrder_49 : decode cX3_tryOrder 49 = .ok (.aload_n 0, 1) := by decide +kernel
theorem dX3_tryOrder_50 : decode cX3_tryOrder 50 = .ok (.getfield 12, 3) := by decide +kernel
theorem dX3_tryOrder_53 : decode cX3_tryOrder 53 = .ok (.aload_n 0, 1) := by decide +kernel
theorem dX3_tryOrder_54 : decode cX3_tryOrder 54 = .ok (.getfield 12, 3) := by decide +kernel
theorem dX3_tryOrder_57 : decode cX3_tryOrder 57 = .ok (.bipush 9, 2) := by decide +kernel
theorem dX3_tryOrder_59 : decode cX3_tryOrder 59 = .ok (.invokevirtual 107, 3) := by decide +kernel
theorem dX3_tryOrder_62 : decode cX3_tryOrder 62 = .ok (.invokevirtual 110, 3) := by decide +kernel
theorem dX3_tryOrder_65 : decode cX3_tryOrder 65 = .ok (.istore_n 3, 1) := by decide +kernel
theorem dX3_tryOrder_66 : decode cX3_tryOrder 66 = .ok (.iload_n 3, 1) := by decide +kernel
theorem dX3_tryOrder_67 : decode cX3_tryOrder 67 = .ok (.aload_n 0, 1) := by decide +kernel
theorem dX3_tryOrder_68 : decode cX3_tryOrder 68 = .ok (.getfield 41, 3) := by decide +kernel
theorem dX3_tryOrder_71 : decode cX3_tryOrder 71 = .ok (.if_icmp .le 23, 3) := by decide +kernel
theorem dX3_tryOrder_74 : decode cX3_tryOrder 74 = .ok (.aload_n 0, 1) := by decide +kernel
theorem dX3_tryOrder_75 : decode cX3_tryOrder 75 = .ok (.iload_n 3, 1) := by decide +kernel
theorem dX3_tryOrder_76 : decode cX3_tryOrder 76 = .ok (.putfield 41, 3) := by decide +kernel
theorem dX3_tryOrder_79 : decode cX3_tryOrder 79 = .ok (.aload_n 0, 1) := by decide +kernel
theorem dX3_tryOrder_80 : decode cX3_tryOrder 80 = .ok (.getfield 25, 3) := by decide +kernel
theorem dX3_tryOrder_83 : decode cX3_tryOrder 83 = .ok (.iconst 0, 1) := by decide +kernel
theorem dX3_tryOrder_84 : decode cX3_tryOrder 84 = .ok (.aload_n 0, 1) := by decide +kernel
theorem dX3_tryOrder_85 : decode cX3_tryOrder 85 = .ok (.getfield 28, 3) := by decide +kernel
theorem dX3_tryOrder_88 : decode cX3_tryOrder 88 = .ok (.iconst 0, 1) := by decide +kernel
theorem dX3_tryOrder_89 : decode cX3_tryOrder 89 = .ok (.bipush 6, 2) := by decide +kernel
theorem dX3_tryOrder_91 : decode cX3_tryOrder 91 = .ok (.invokestatic 113, 3) := by decide +kernel
theorem dX3_tryOrder_94 : decode cX3_tryOrder 94 = .ok (.return_, 1) := by decide +kernel
theorem dX3_isFirstOfAlike_0 : decode cX3_isFirstOfAlike 0 = .ok (.iconst 0, 1) := by decide +kernel
theorem dX3_isFirstOfAlike_1 : decode cX3_isFirstOfAlike 1 = .ok (.istore_n 2, 1) := by decide +kernel
theorem dX3_isFirstOfAlike_2 : decode cX3_isFirstOfAlike 2 = .ok (.iload_n 2, 1) := by decide +kernel
theorem dX3_isFirstOfAlike_3 : decode cX3_isFirstOfAlike 3 = .ok (.aload_n 1, 1) := by decide +kernel
theorem dX3_isFirstOfAlike_4 : decode cX3_isFirstOfAlike 4 = .ok (.getfield 90, 3) := by decide +kernel
theorem dX3_isFirstOfAlike_7 : decode cX3_isFirstOfAlike 7 = .ok (.if_icmp .ge 69, 3) := by decide +kernel
theorem dX3_isFirstOfAlike_10 : decode cX3_isFirstOfAlike 10 = .ok (.iload_n 2, 1) := by decide +kernel
theorem dX3_isFirstOfAlike_11 : decode cX3_isFirstOfAlike 11 = .ok (.iconst 1, 1) := by decide +kernel
theorem dX3_isFirstOfAlike_12 : decode cX3_isFirstOfAlike 12 = .ok (.iadd, 1) := by decide +kernel
theorem dX3_isFirstOfAlike_13 : decode cX3_isFirstOfAlike 13 = .ok (.istore_n 3, 1) := by decide +kernel
theorem dX3_isFirstOfAlike_14 : decode cX3_isFirstOfAlike 14 = .ok (.iload_n 3, 1) := by decide +kernel
theorem dX3_isFirstOfAlike_15 : decode cX3_isFirstOfAlike 15 = .ok (.aload_n 1, 1) := by decide +kernel
theorem dX3_isFirstOfAlike_16 : decode cX3_isFirstOfAlike 16 = .ok (.getfield 90, 3) := by decide +kernel
theorem dX3_isFirstOfAlike_19 : decode cX3_isFirstOfAlike 19 = .ok (.if_icmp .ge 51, 3) := by decide +kernel
theorem dX3_isFirstOfAlike_22 : decode cX3_isFirstOfAlike 22 = .ok (.aload_n 0, 1) := by decide +kernel
theorem dX3_isFirstOfAlike_23 : decode cX3_isFirstOfAlike 23 = .ok (.getfield 25, 3) := by decide +kernel
theorem dX3_isFirstOfAlike_26 : decode cX3_isFirstOfAlike 26 = .ok (.iload_n 2, 1) := by decide +kernel
theorem dX3_isFirstOfAlike_27 : decode cX3_isFirstOfAlike 27 = .ok (.iaload, 1) := by decide +kernel
theorem dX3_isFirstOfAlike_28 : decode cX3_isFirstOfAlike 28 = .ok (.aload_n 0, 1) := by decide +kernel
theorem dX3_isFirstOfAlike_29 : decode cX3_isFirstOfAlike 29 = .ok (.getfield 25, 3) := by decide +kernel
theorem dX3_isFirstOfAlike_32 : decode cX3_isFirstOfAlike 32 = .ok (.iload_n 3, 1) := by decide +kernel
theorem dX3_isFirstOfAlike_33 : decode cX3_isFirstOfAlike 33 = .ok (.iaload, 1) := by decide +kernel
theorem dX3_isFirstOfAlike_34 : decode cX3_isFirstOfAlike 34 = .ok (.if_icmp .le 30, 3) := by decide +kernel
theorem dX3_isFirstOfAlike_37 : decode cX3_isFirstOfAlike 37 = .ok (.aload_n 1, 1) := by decide +kernel
theorem dX3_isFirstOfAlike_38 : decode cX3_isFirstOfAlike 38 = .ok (.getfield 104, 3) := by decide +kernel
theorem dX3_isFirstOfAlike_41 : decode cX3_isFirstOfAlike 41 = .ok (.aload_n 0, 1) := by decide +kernel
theorem dX3_isFirstOfAlike_42 : decode cX3_isFirstOfAlike 42 = .ok (.getfield 25, 3) := by decide +kernel
theorem dX3_isFirstOfAlike_45 : decode cX3_isFirstOfAlike 45 = .ok (.iload_n 2, 1) := by decide +kernel
theorem dX3_isFirstOfAlike_46 : decode cX3_isFirstOfAlike 46 = .ok (.iaload, 1) := by decide +kernel
theorem dX3_isFirstOfAlike_47 : decode cX3_isFirstOfAlike 47 = .ok (.iaload, 1) := by decide +kernel
theorem dX3_isFirstOfAlike_48 : decode cX3_isFirstOfAlike 48 = .ok (.aload_n 1, 1) := by decide +kernel
theorem dX3_isFirstOfAlike_49 : decode cX3_isFirstOfAlike 49 = .ok (.getfield 104, 3) := by decide +kernel
theorem dX3_isFirstOfAlike_52 : decode cX3_isFirstOfAlike 52 = .ok (.aload_n 0, 1) := by decide +kernel
theorem dX3_isFirstOfAlike_53 : decode cX3_isFirstOfAlike 53 = .ok (.getfield 25, 3) := by decide +kernel
theorem dX3_isFirstOfAlike_56 : decode cX3_isFirstOfAlike 56 = .ok (.iload_n 3, 1) := by decide +kernel
theorem dX3_isFirstOfAlike_57 : decode cX3_isFirstOfAlike 57 = .ok (.iaload, 1) := by decide +kernel
theorem dX3_isFirstOfAlike_58 : decode cX3_isFirstOfAlike 58 = .ok (.iaload, 1) := by decide +kernel
theorem dX3_isFirstOfAlike_59 : decode cX3_isFirstOfAlike 59 = .ok (.if_icmp .ne 5, 3) := by decide +kernel
theorem dX3_isFirstOfAlike_62 : decode cX3_isFirstOfAlike 62 = .ok (.iconst 0, 1) := by decide +kernel
theorem dX3_isFirstOfAlike_63 : decode cX3_isFirstOfAlike 63 = .ok (.ireturn, 1) := by decide +kernel
theorem dX3_isFirstOfAlike_64 : decode cX3_isFirstOfAlike 64 = .ok (.iinc 3 1, 3) := by decide +kernel
theorem dX3_isFirstOfAlike_67 : decode cX3_isFirstOfAlike 67 = .ok (.goto (-53), 3) := by decide +kernel
theorem dX3_isFirstOfAlike_70 : decode cX3_isFirstOfAlike 70 = .ok (.iinc 2 1, 3) := by decide +kernel
theorem dX3_isFirstOfAlike_73 : decode cX3_isFirstOfAlike 73 = .ok (.goto (-71), 3) := by decide +kernel
theorem dX3_isFirstOfAlike_76 : decode cX3_isFirstOfAlike 76 = .ok (.iconst 1, 1) := by decide +kernel
theorem dX3_isFirstOfAlike_77 : decode cX3_isFirstOfAlike 77 = .ok (.ireturn, 1) := by decide +kernel
theorem dX3_stepToNextOrder_0 : decode cX3_stepToNextOrder 0 = .ok (.iload_n 1, 1) := by decide +kernel
theorem dX3_stepToNextOrder_1 : decode cX3_stepToNextOrder 1 = .ok (.iconst 1, 1) := by decide +kernel
theorem dX3_stepToNextOrder_2 : decode cX3_stepToNextOrder 2 = .ok (.isub, 1) := by decide +kernel
theorem dX3_stepToNextOrder_3 : decode cX3_stepToNextOrder 3 = .ok (.istore_n 2, 1) := by decide +kernel
theorem dX3_stepToNextOrder_4 : decode cX3_stepToNextOrder 4 = .ok (.iload_n 2, 1) := by decide +kernel
theorem dX3_stepToNextOrder_5 : decode cX3_stepToNextOrder 5 = .ok (.iconst 1, 1) := by decide +kernel
theorem dX3_stepToNextOrder_6 : decode cX3_stepToNextOrder 6 = .ok (.isub, 1) := by decide +kernel
theorem dX3_stepToNextOrder_7 : decode cX3_stepToNextOrder 7 = .ok (.istore_n 3, 1) := by decide +kernel
theorem dX3_stepToNextOrder_8 : decode cX3_stepToNextOrder 8 = .ok (.iload_n 3, 1) := by decide +kernel
theorem dX3_stepToNextOrder_9 : decode cX3_stepToNextOrder 9 = .ok (.ifCond .lt 26, 3) := by decide +kernel
theorem dX3_stepToNextOrder_12 : decode cX3_stepToNextOrder 12 = .ok (.aload_n 0, 1) := by decide +kernel
theorem dX3_stepToNextOrder_13 : decode cX3_stepToNextOrder 13 = .ok (.getfield 25, 3) := by decide +kernel
theorem dX3_stepToNextOrder_16 : decode cX3_stepToNextOrder 16 = .ok (.iload_n 3, 1) := by decide +kernel
theorem dX3_stepToNextOrder_17 : decode cX3_stepToNextOrder 17 = .ok (.iaload, 1) := by decide +kernel
theorem dX3_stepToNextOrder_18 : decode cX3_stepToNextOrder 18 = .ok (.aload_n 0, 1) := by decide +kernel
theorem dX3_stepToNextOrder_19 : decode cX3_stepToNextOrder 19 = .ok (.getfield 25, 3) := by decide +kernel
theorem dX3_stepToNextOrder_22 : decode cX3_stepToNextOrder 22 = .ok (.iload_n 3, 1) := by decide +kernel
theorem dX3_stepToNextOrder_23 : decode cX3_stepToNextOrder 23 = .ok (.iconst 1, 1) := by decide +kernel
theorem dX3_stepToNextOrder_24 : decode cX3_stepToNextOrder 24 = .ok (.iadd, 1) := by decide +kernel
theorem dX3_stepToNextOrder_25 : decode cX3_stepToNextOrder 25 = .ok (.iaload, 1) := by decide +kernel
theorem dX3_stepToNextOrder_26 : decode cX3_stepToNextOrder 26 = .ok (.if_icmp .le 9, 3) := by decide +kernel
theorem dX3_stepToNextOrder_29 : decode cX3_stepToNextOrder 29 = .ok (.iinc 3 (-1), 3) := by decide +kernel
theorem dX3_stepToNextOrder_32 : decode cX3_stepToNextOrder 32 = .ok (.goto (-24), 3) := by decide +kernel
theorem dX3_stepToNextOrder_35 : decode cX3_stepToNextOrder 35 = .ok (.iload_n 3, 1) := by decide +kernel
theorem dX3_stepToNextOrder_36 : decode cX3_stepToNextOrder 36 = .ok (.ifCond .ge 5, 3) := by decide +kernel
theorem dX3_stepToNextOrder_39 : decode cX3_stepToNextOrder 39 = .ok (.iconst 0, 1) := by decide +kernel
theorem dX3_stepToNextOrder_40 : decode cX3_stepToNextOrder 40 = .ok (.ireturn, 1) := by decide +kernel
theorem dX3_stepToNextOrder_41 : decode cX3_stepToNextOrder 41 = .ok (.iload_n 2, 1) := by decide +kernel
theorem dX3_stepToNextOrder_42 : decode cX3_stepToNextOrder 42 = .ok (.istore 4, 2) := by decide +kernel
theorem dX3_stepToNextOrder_44 : decode cX3_stepToNextOrder 44 = .ok (.iload 4, 2) := by decide +kernel
theorem dX3_stepToNextOrder_46 : decode cX3_stepToNextOrder 46 = .ok (.iload_n 3, 1) := by decide +kernel
theorem dX3_stepToNextOrder_47 : decode cX3_stepToNextOrder 47 = .ok (.if_icmp .le 25, 3) := by decide +kernel
theorem dX3_stepToNextOrder_50 : decode cX3_stepToNextOrder 50 = .ok (.aload_n 0, 1) := by decide +kernel
theorem dX3_stepToNextOrder_51 : decode cX3_stepToNextOrder 51 = .ok (.getfield 25, 3) := by decide +kernel
theorem dX3_stepToNextOrder_54 : decode cX3_stepToNextOrder 54 = .ok (.iload 4, 2) := by decide +kernel
theorem dX3_stepToNextOrder_56 : decode cX3_stepToNextOrder 56 = .ok (.iaload, 1) := by decide +kernel
theorem dX3_stepToNextOrder_57 : decode cX3_stepToNextOrder 57 = .ok (.aload_n 0, 1) := by decide +kernel
theorem dX3_stepToNextOrder_58 : decode cX3_stepToNextOrder 58 = .ok (.getfield 25, 3) := by decide +kernel
theorem dX3_stepToNextOrder_61 : decode cX3_stepToNextOrder 61 = .ok (.iload_n 3, 1) := by decide +kernel
theorem dX3_stepToNextOrder_62 : decode cX3_stepToNextOrder 62 = .ok (.iaload, 1) := by decide +kernel
theorem dX3_stepToNextOrder_63 : decode cX3_stepToNextOrder 63 = .ok (.if_icmp .ge 9, 3) := by decide +kernel
theorem dX3_stepToNextOrder_66 : decode cX3_stepToNextOrder 66 = .ok (.iinc 4 (-1), 3) := by decide +kernel
theorem dX3_stepToNextOrder_69 : decode cX3_stepToNextOrder 69 = .ok (.goto (-25), 3) := by decide +kernel
theorem dX3_stepToNextOrder_72 : decode cX3_stepToNextOrder 72 = .ok (.aload_n 0, 1) := by decide +kernel
theorem dX3_stepToNextOrder_73 : decode cX3_stepToNextOrder 73 = .ok (.iload_n 3, 1) := by decide +kernel
theorem dX3_stepToNextOrder_74 : decode cX3_stepToNextOrder 74 = .ok (.iload 4, 2) := by decide +kernel
theorem dX3_stepToNextOrder_76 : decode cX3_stepToNextOrder 76 = .ok (.invokevirtual 119, 3) := by decide +kernel
theorem dX3_stepToNextOrder_79 : decode cX3_stepToNextOrder 79 = .ok (.iload_n 3, 1) := by decide +kernel
theorem dX3_stepToNextOrder_80 : decode cX3_stepToNextOrder 80 = .ok (.iconst 1, 1) := by decide +kernel
theorem dX3_stepToNextOrder_81 : decode cX3_stepToNextOrder 81 = .ok (.iadd, 1) := by decide +kernel
theorem dX3_stepToNextOrder_82 : decode cX3_stepToNextOrder 82 = .ok (.istore 5, 2) := by decide +kernel
theorem dX3_stepToNextOrder_84 : decode cX3_stepToNextOrder 84 = .ok (.iload_n 2, 1) := by decide +kernel
theorem dX3_stepToNextOrder_85 : decode cX3_stepToNextOrder 85 = .ok (.istore 6, 2) := by decide +kernel
theorem dX3_stepToNextOrder_87 : decode cX3_stepToNextOrder 87 = .ok (.iload 5, 2) := by decide +kernel
theorem dX3_stepToNextOrder_89 : decode cX3_stepToNextOrder 89 = .ok (.iload 6, 2) := by decide +kernel
theorem dX3_stepToNextOrder_91 : decode cX3_stepToNextOrder 91 = .ok (.if_icmp .ge 20, 3) := by decide +kernel
theorem dX3_stepToNextOrder_94 : decode cX3_stepToNextOrder 94 = .ok (.aload_n 0, 1) := by decide +kernel
theorem dX3_stepToNextOrder_95 : decode cX3_stepToNextOrder 95 = .ok (.iload 5, 2) := by decide +kernel
theorem dX3_stepToNextOrder_97 : decode cX3_stepToNextOrder 97 = .ok (.iload 6, 2) := by decide +kernel
theorem dX3_stepToNextOrder_99 : decode cX3_stepToNextOrder 99 = .ok (.invokevirtual 119, 3) := by decide +kernel
theorem dX3_stepToNextOrder_102 : decode cX3_stepToNextOrder 102 = .ok (.iinc 5 1, 3) := by decide +kernel
theorem dX3_stepToNextOrder_105 : decode cX3_stepToNextOrder 105 = .ok (.iinc 6 (-1), 3) := by decide +kernel
theorem dX3_stepToNextOrder_108 : decode cX3_stepToNextOrder 108 = .ok (.goto (-21), 3) := by decide +kernel
theorem dX3_stepToNextOrder_111 : decode cX3_stepToNextOrder 111 = .ok (.iconst 1, 1) := by decide +kernel
theorem dX3_stepToNextOrder_112 : decode cX3_stepToNextOrder 112 = .ok (.ireturn, 1) := by decide +kernel
theorem dX3_swapTried_0 : decode cX3_swapTried 0 = .ok (.aload_n 0, 1) := by decide +kernel
theorem dX3_swapTried_1 : decode cX3_swapTried 1 = .ok (.getfield 25, 3) := by decide +kernel
theorem dX3_swapTried_4 : decode cX3_swapTried 4 = .ok (.iload_n 1, 1) := by decide +kernel
theorem dX3_swapTried_5 : decode cX3_swapTried 5 = .ok (.iaload, 1) := by decide +kernel
theorem dX3_swapTried_6 : decode cX3_swapTried 6 = .ok (.istore_n 3, 1) := by decide +kernel
theorem dX3_swapTried_7 : decode cX3_swapTried 7 = .ok (.aload_n 0, 1) := by decide +kernel
theorem dX3_swapTried_8 : decode cX3_swapTried 8 = .ok (.getfield 25, 3) := by decide +kernel
theorem dX3_swapTried_11 : decode cX3_swapTried 11 = .ok (.iload_n 1, 1) := by decide +kernel
theorem dX3_swapTried_12 : decode cX3_swapTried 12 = .ok (.aload_n 0, 1) := by decide +kernel
theorem dX3_swapTried_13 : decode cX3_swapTried 13 = .ok (.getfield 25, 3) := by decide +kernel
theorem dX3_swapTried_16 : decode cX3_swapTried 16 = .ok (.iload_n 2, 1) := by decide +kernel
theorem dX3_swapTried_17 : decode cX3_swapTried 17 = .ok (.iaload, 1) := by decide +kernel
theorem dX3_swapTried_18 : decode cX3_swapTried 18 = .ok (.iastore, 1) := by decide +kernel
theorem dX3_swapTried_19 : decode cX3_swapTried 19 = .ok (.aload_n 0, 1) := by decide +kernel
theorem dX3_swapTried_20 : decode cX3_swapTried 20 = .ok (.getfield 25, 3) := by decide +kernel
theorem dX3_swapTried_23 : decode cX3_swapTried 23 = .ok (.iload_n 2, 1) := by decide +kernel
theorem dX3_swapTried_24 : decode cX3_swapTried 24 = .ok (.iload_n 3, 1) := by decide +kernel
theorem dX3_swapTried_25 : decode cX3_swapTried 25 = .ok (.iastore, 1) := by decide +kernel
theorem dX3_swapTried_26 : decode cX3_swapTried 26 = .ok (.return_, 1) := by decide +kernel
theorem dX3_playTurns_0 : decode cX3_playTurns 0 = .ok (.iconst 1, 1) := by decide +kernel
theorem dX3_playTurns_1 : decode cX3_playTurns 1 = .ok (.aload_n 1, 1) := by decide +kernel
theorem dX3_playTurns_2 : decode cX3_playTurns 2 = .ok (.getfield 122, 3) := by decide +kernel
theorem dX3_playTurns_5 : decode cX3_playTurns 5 = .ok (.ishl, 1) := by decide +kernel
theorem dX3_playTurns_6 : decode cX3_playTurns 6 = .ok (.istore 4, 2) := by decide +kernel
theorem dX3_playTurns_8 : decode cX3_playTurns 8 = .ok (.aload_n 0, 1) := by decide +kernel
theorem dX3_playTurns_9 : decode cX3_playTurns 9 = .ok (.aload_n 1, 1) := by decide +kernel
theorem dX3_playTurns_10 : decode cX3_playTurns 10 = .ok (.iload 4, 2) := by decide +kernel
theorem dX3_playTurns_12 : decode cX3_playTurns 12 = .ok (.iload_n 2, 1) := by decide +kernel
theorem dX3_playTurns_13 : decode cX3_playTurns 13 = .ok (.iload_n 3, 1) := by decide +kernel
theorem dX3_playTurns_14 : decode cX3_playTurns 14 = .ok (.invokevirtual 125, 3) := by decide +kernel
theorem dX3_playTurns_17 : decode cX3_playTurns 17 = .ok (.iload_n 2, 1) := by decide +kernel
theorem dX3_playTurns_18 : decode cX3_playTurns 18 = .ok (.iconst 1, 1) := by decide +kernel
theorem dX3_playTurns_19 : decode cX3_playTurns 19 = .ok (.isub, 1) := by decide +kernel
theorem dX3_playTurns_20 : decode cX3_playTurns 20 = .ok (.istore 5, 2) := by decide +kernel
theorem dX3_playTurns_22 : decode cX3_playTurns 22 = .ok (.iload 5, 2) := by decide +kernel
theorem dX3_playTurns_24 : decode cX3_playTurns 24 = .ok (.ifCond .lt 21, 3) := by decide +kernel
theorem dX3_playTurns_27 : decode cX3_playTurns 27 = .ok (.aload_n 0, 1) := by decide +kernel
theorem dX3_playTurns_28 : decode cX3_playTurns 28 = .ok (.aload_n 1, 1) := by decide +kernel
theorem dX3_playTurns_29 : decode cX3_playTurns 29 = .ok (.getfield 122, 3) := by decide +kernel
theorem dX3_playTurns_32 : decode cX3_playTurns 32 = .ok (.iload 4, 2) := by decide +kernel
theorem dX3_playTurns_34 : decode cX3_playTurns 34 = .ok (.iload 5, 2) := by decide +kernel
theorem dX3_playTurns_36 : decode cX3_playTurns 36 = .ok (.invokevirtual 129, 3) := by decide +kernel
theorem dX3_playTurns_39 : decode cX3_playTurns 39 = .ok (.iinc 5 (-1), 3) := by decide +kernel
theorem dX3_playTurns_42 : decode cX3_playTurns 42 = .ok (.goto (-20), 3) := by decide +kernel
theorem dX3_playTurns_45 : decode cX3_playTurns 45 = .ok (.aload_n 0, 1) := by decide +kernel
theorem dX3_playTurns_46 : decode cX3_playTurns 46 = .ok (.getfield 18, 3) := by decide +kernel
theorem dX3_playTurns_49 : decode cX3_playTurns 49 = .ok (.iconst 0, 1) := by decide +kernel
theorem dX3_playTurns_50 : decode cX3_playTurns 50 = .ok (.iaload, 1) := by decide +kernel
theorem dX3_playTurns_51 : decode cX3_playTurns 51 = .ok (.ireturn, 1) := by decide +kernel
theorem dX3_weighSets_0 : decode cX3_weighSets 0 = .ok (.aload_n 1, 1) := by decide +kernel
theorem dX3_weighSets_1 : decode cX3_weighSets 1 = .ok (.invokevirtual 67, 3) := by decide +kernel
theorem dX3_weighSets_4 : decode cX3_weighSets 4 = .ok (.istore 5, 2) := by decide +kernel
theorem dX3_weighSets_6 : decode cX3_weighSets 6 = .ok (.iconst 0, 1) := by decide +kernel
theorem dX3_weighSets_7 : decode cX3_weighSets 7 = .ok (.istore 6, 2) := by decide +kernel
theorem dX3_weighSets_9 : decode cX3_weighSets 9 = .ok (.iload 6, 2) := by decide +kernel
theorem dX3_weighSets_11 : decode cX3_weighSets 11 = .ok (.iload_n 2, 1) := by decide +kernel
theorem dX3_weighSets_12 : decode cX3_weighSets 12 = .ok (.if_icmp .ge 97, 3) := by decide +kernel
theorem dX3_weighSets_15 : decode cX3_weighSets 15 = .ok (.iload 6, 2) := by decide +kernel
theorem dX3_weighSets_17 : decode cX3_weighSets 17 = .ok (.iload 5, 2) := by decide +kernel
theorem dX3_weighSets_19 : decode cX3_weighSets 19 = .ok (.iconst (-1), 1) := by decide +kernel
theorem dX3_weighSets_20 : decode cX3_weighSets 20 = .ok (.ixor, 1) := by decide +kernel
theorem dX3_weighSets_21 : decode cX3_weighSets 21 = .ok (.iand, 1) := by decide +kernel
theorem dX3_weighSets_22 : decode cX3_weighSets 22 = .ok (.ifCond .eq 23, 3) := by decide +kernel
theorem dX3_weighSets_25 : decode cX3_weighSets 25 = .ok (.aload_n 0, 1) := by decide +kernel
theorem dX3_weighSets_26 : decode cX3_weighSets 26 = .ok (.getfield 18, 3) := by decide +kernel
theorem dX3_weighSets_29 : decode cX3_weighSets 29 = .ok (.iload 6, 2) := by decide +kernel
theorem dX3_weighSets_31 : decode cX3_weighSets 31 = .ok (.aload_n 0, 1) := by decide +kernel
theorem dX3_weighSets_32 : decode cX3_weighSets 32 = .ok (.getfield 18, 3) := by decide +kernel
theorem dX3_weighSets_35 : decode cX3_weighSets 35 = .ok (.iload 6, 2) := by decide +kernel
theorem dX3_weighSets_37 : decode cX3_weighSets 37 = .ok (.iload 5, 2) := by decide +kernel
theorem dX3_weighSets_39 : decode cX3_weighSets 39 = .ok (.iand, 1) := by decide +kernel
theorem dX3_weighSets_40 : decode cX3_weighSets 40 = .ok (.iaload, 1) := by decide +kernel
theorem dX3_weighSets_41 : decode cX3_weighSets 41 = .ok (.iastore, 1) := by decide +kernel
theorem dX3_weighSets_42 : decode cX3_weighSets 42 = .ok (.goto 61, 3) := by decide +kernel
theorem dX3_weighSets_45 : decode cX3_weighSets 45 = .ok (.iload 6, 2) := by decide +kernel
theorem dX3_weighSets_47 : decode cX3_weighSets 47 = .ok (.invokestatic 82, 3) := by decide +kernel
theorem dX3_weighSets_50 : decode cX3_weighSets 50 = .ok (.iload_n 3, 1) := by decide +kernel
theorem dX3_weighSets_51 : decode cX3_weighSets 51 = .ok (.if_icmp .gt 52, 3) := by decide +kernel
theorem dX3_weighSets_54 : decode cX3_weighSets 54 = .ok (.aload_n 0, 1) := by decide +kernel
theorem dX3_weighSets_55 : decode cX3_weighSets 55 = .ok (.getfield 12, 3) := by decide +kernel
theorem dX3_weighSets_58 : decode cX3_weighSets 58 = .ok (.aload_n 1, 1) := by decide +kernel
theorem dX3_weighSets_59 : decode cX3_weighSets 59 = .ok (.invokevirtual 48, 3) := by decide +kernel
theorem dX3_weighSets_62 : decode cX3_weighSets 62 = .ok (.aload_n 0, 1) := by decide +kernel
theorem dX3_weighSets_63 : decode cX3_weighSets 63 = .ok (.getfield 12, 3) := by decide +kernel
theorem dX3_weighSets_66 : decode cX3_weighSets 66 = .ok (.iload 6, 2) := by decide +kernel
theorem dX3_weighSets_68 : decode cX3_weighSets 68 = .ok (.invokevirtual 71, 3) := by decide +kernel
theorem dX3_weighSets_71 : decode cX3_weighSets 71 = .ok (.aload_n 0, 1) := by decide +kernel
theorem dX3_weighSets_72 : decode cX3_weighSets 72 = .ok (.iload 4, 2) := by decide +kernel
theorem dX3_weighSets_74 : decode cX3_weighSets 74 = .ok (.invokevirtual 52, 3) := by decide +kernel
theorem dX3_weighSets_77 : decode cX3_weighSets 77 = .ok (.aload_n 0, 1) := by decide +kernel
theorem dX3_weighSets_78 : decode cX3_weighSets 78 = .ok (.getfield 18, 3) := by decide +kernel
theorem dX3_weighSets_81 : decode cX3_weighSets 81 = .ok (.iload 6, 2) := by decide +kernel
theorem dX3_weighSets_83 : decode cX3_weighSets 83 = .ok (.aload_n 0, 1) := by decide +kernel
theorem dX3_weighSets_84 : decode cX3_weighSets 84 = .ok (.getfield 12, 3) := by decide +kernel
theorem dX3_weighSets_87 : decode cX3_weighSets 87 = .ok (.bipush 9, 2) := by decide +kernel
theorem dX3_weighSets_89 : decode cX3_weighSets 89 = .ok (.invokevirtual 74, 3) := by decide +kernel
theorem dX3_weighSets_92 : decode cX3_weighSets 92 = .ok (.aload_n 0, 1) := by decide +kernel
theorem dX3_weighSets_93 : decode cX3_weighSets 93 = .ok (.getfield 12, 3) := by decide +kernel
theorem dX3_weighSets_96 : decode cX3_weighSets 96 = .ok (.bipush 8, 2) := by decide +kernel
theorem dX3_weighSets_98 : decode cX3_weighSets 98 = .ok (.invokevirtual 74, 3) := by decide +kernel
theorem dX3_weighSets_101 : decode cX3_weighSets 101 = .ok (.isub, 1) := by decide +kernel
theorem dX3_weighSets_102 : decode cX3_weighSets 102 = .ok (.iastore, 1) := by decide +kernel
theorem dX3_weighSets_103 : decode cX3_weighSets 103 = .ok (.iinc 6 1, 3) := by decide +kernel
theorem dX3_weighSets_106 : decode cX3_weighSets 106 = .ok (.goto (-97), 3) := by decide +kernel
theorem dX3_weighSets_109 : decode cX3_weighSets 109 = .ok (.return_, 1) := by decide +kernel
theorem dX3_playTurn_0 : decode cX3_playTurn 0 = .ok (.iload_n 3, 1) := by decide +kernel
theorem dX3_playTurn_1 : decode cX3_playTurn 1 = .ok (.iconst 2, 1) := by decide +kernel
theorem dX3_playTurn_2 : decode cX3_playTurn 2 = .ok (.irem, 1) := by decide +kernel
theorem dX3_playTurn_3 : decode cX3_playTurn 3 = .ok (.ifCond .ne 7, 3) := by decide +kernel
theorem dX3_playTurn_6 : decode cX3_playTurn 6 = .ok (.iconst 1, 1) := by decide +kernel
theorem dX3_playTurn_7 : decode cX3_playTurn 7 = .ok (.goto 4, 3) := by decide +kernel
theorem dX3_playTurn_10 : decode cX3_playTurn 10 = .ok (.iconst 0, 1) := by decide +kernel
theorem dX3_playTurn_11 : decode cX3_playTurn 11 = .ok (.istore 4, 2) := by decide +kernel
theorem dX3_playTurn_13 : decode cX3_playTurn 13 = .ok (.iconst 0, 1) := by decide +kernel
theorem dX3_playTurn_14 : decode cX3_playTurn 14 = .ok (.istore 5, 2) := by decide +kernel
theorem dX3_playTurn_16 : decode cX3_playTurn 16 = .ok (.iload 5, 2) := by decide +kernel
theorem dX3_playTurn_18 : decode cX3_playTurn 18 = .ok (.iload_n 2, 1) := by decide +kernel
theorem dX3_playTurn_19 : decode cX3_playTurn 19 = .ok (.if_icmp .ge 89, 3) := by decide +kernel
theorem dX3_playTurn_22 : decode cX3_playTurn 22 = .ok (.aload_n 0, 1) := by decide +kernel
theorem dX3_playTurn_23 : decode cX3_playTurn 23 = .ok (.getfield 18, 3) := by decide +kernel
theorem dX3_playTurn_26 : decode cX3_playTurn 26 = .ok (.iload 5, 2) := by decide +kernel
theorem dX3_playTurn_28 : decode cX3_playTurn 28 = .ok (.iaload, 1) := by decide +kernel
theorem dX3_playTurn_29 : decode cX3_playTurn 29 = .ok (.istore 6, 2) := by decide +kernel
theorem dX3_playTurn_31 : decode cX3_playTurn 31 = .ok (.iconst 0, 1) := by decide +kernel
theorem dX3_playTurn_32 : decode cX3_playTurn 32 = .ok (.istore 7, 2) := by decide +kernel
theorem dX3_playTurn_34 : decode cX3_playTurn 34 = .ok (.iload 7, 2) := by decide +kernel
theorem dX3_playTurn_36 : decode cX3_playTurn 36 = .ok (.iload_n 1, 1) := by decide +kernel
theorem dX3_playTurn_37 : decode cX3_playTurn 37 = .ok (.if_icmp .ge 56, 3) := by decide +kernel
theorem dX3_playTurn_40 : decode cX3_playTurn 40 = .ok (.iload 5, 2) := by decide +kernel
theorem dX3_playTurn_42 : decode cX3_playTurn 42 = .ok (.invokestatic 82, 3) := by decide +kernel
theorem dX3_playTurn_45 : decode cX3_playTurn 45 = .ok (.iload_n 3, 1) := by decide +kernel
theorem dX3_playTurn_46 : decode cX3_playTurn 46 = .ok (.if_icmp .gt 47, 3) := by decide +kernel
theorem dX3_playTurn_49 : decode cX3_playTurn 49 = .ok (.aload_n 0, 1) := by decide +kernel
theorem dX3_playTurn_50 : decode cX3_playTurn 50 = .ok (.getfield 18, 3) := by decide +kernel
theorem dX3_playTurn_53 : decode cX3_playTurn 53 = .ok (.iload 5, 2) := by decide +kernel
theorem dX3_playTurn_55 : decode cX3_playTurn 55 = .ok (.iconst 1, 1) := by decide +kernel
theorem dX3_playTurn_56 : decode cX3_playTurn 56 = .ok (.iload 7, 2) := by decide +kernel
theorem dX3_playTurn_58 : decode cX3_playTurn 58 = .ok (.ishl, 1) := by decide +kernel
theorem dX3_playTurn_59 : decode cX3_playTurn 59 = .ok (.ixor, 1) := by decide +kernel
theorem dX3_playTurn_60 : decode cX3_playTurn 60 = .ok (.iaload, 1) := by decide +kernel
theorem dX3_playTurn_61 : decode cX3_playTurn 61 = .ok (.istore 8, 2) := by decide +kernel
theorem dX3_playTurn_63 : decode cX3_playTurn 63 = .ok (.iload 4, 2) := by decide +kernel
theorem dX3_playTurn_65 : decode cX3_playTurn 65 = .ok (.ifCond .eq 13, 3) := by decide +kernel
theorem dX3_playTurn_68 : decode cX3_playTurn 68 = .ok (.iload 6, 2) := by decide +kernel
theorem dX3_playTurn_70 : decode cX3_playTurn 70 = .ok (.iload 8, 2) := by decide +kernel
theorem dX3_playTurn_72 : decode cX3_playTurn 72 = .ok (.invokestatic 133, 3) := by decide +kernel
theorem dX3_playTurn_75 : decode cX3_playTurn 75 = .ok (.goto 10, 3) := by decide +kernel
theorem dX3_playTurn_78 : decode cX3_playTurn 78 = .ok (.iload 6, 2) := by decide +kernel
theorem dX3_playTurn_80 : decode cX3_playTurn 80 = .ok (.iload 8, 2) := by decide +kernel
theorem dX3_playTurn_82 : decode cX3_playTurn 82 = .ok (.invokestatic 139, 3) := by decide +kernel
theorem dX3_playTurn_85 : decode cX3_playTurn 85 = .ok (.istore 6, 2) := by decide +kernel
theorem dX3_playTurn_87 : decode cX3_playTurn 87 = .ok (.iinc 7 1, 3) := by decide +kernel
theorem dX3_playTurn_90 : decode cX3_playTurn 90 = .ok (.goto (-56), 3) := by decide +kernel
theorem dX3_playTurn_93 : decode cX3_playTurn 93 = .ok (.aload_n 0, 1) := by decide +kernel
theorem dX3_playTurn_94 : decode cX3_playTurn 94 = .ok (.getfield 22, 3) := by decide +kernel
theorem dX3_playTurn_97 : decode cX3_playTurn 97 = .ok (.iload 5, 2) := by decide +kernel
theorem dX3_playTurn_99 : decode cX3_playTurn 99 = .ok (.iload 6, 2) := by decide +kernel
theorem dX3_playTurn_101 : decode cX3_playTurn 101 = .ok (.iastore, 1) := by decide +kernel
theorem dX3_playTurn_102 : decode cX3_playTurn 102 = .ok (.iinc 5 1, 3) := by decide +kernel
theorem dX3_playTurn_105 : decode cX3_playTurn 105 = .ok (.goto (-89), 3) := by decide +kernel
theorem dX3_playTurn_108 : decode cX3_playTurn 108 = .ok (.aload_n 0, 1) := by decide +kernel
theorem dX3_playTurn_109 : decode cX3_playTurn 109 = .ok (.getfield 22, 3) := by decide +kernel
theorem dX3_playTurn_112 : decode cX3_playTurn 112 = .ok (.iconst 0, 1) := by decide +kernel
theorem dX3_playTurn_113 : decode cX3_playTurn 113 = .ok (.aload_n 0, 1) := by decide +kernel
theorem dX3_playTurn_114 : decode cX3_playTurn 114 = .ok (.getfield 18, 3) := by decide +kernel
theorem dX3_playTurn_117 : decode cX3_playTurn 117 = .ok (.iconst 0, 1) := by decide +kernel
theorem dX3_playTurn_118 : decode cX3_playTurn 118 = .ok (.iload_n 2, 1) := by decide +kernel
theorem dX3_playTurn_119 : decode cX3_playTurn 119 = .ok (.invokestatic 113, 3) := by decide +kernel
theorem dX3_playTurn_122 : decode cX3_playTurn 122 = .ok (.return_, 1) := by decide +kernel
theorem dX3_watch_0 : decode cX3_watch 0 = .ok (.aload_n 0, 1) := by decide +kernel
theorem dX3_watch_1 : decode cX3_watch 1 = .ok (.aload_n 1, 1) := by decide +kernel
theorem dX3_watch_2 : decode cX3_watch 2 = .ok (.putfield 31, 3) := by decide +kernel
theorem dX3_watch_5 : decode cX3_watch 5 = .ok (.aload_n 0, 1) := by decide +kernel
theorem dX3_watch_6 : decode cX3_watch 6 = .ok (.iload_n 2, 1) := by decide +kernel
theorem dX3_watch_7 : decode cX3_watch 7 = .ok (.putfield 34, 3) := by decide +kernel
theorem dX3_watch_10 : decode cX3_watch 10 = .ok (.aload_n 0, 1) := by decide +kernel
theorem dX3_watch_11 : decode cX3_watch 11 = .ok (.iload_n 3, 1) := by decide +kernel
theorem dX3_watch_12 : decode cX3_watch 12 = .ok (.putfield 38, 3) := by decide +kernel
theorem dX3_watch_15 : decode cX3_watch 15 = .ok (.return_, 1) := by decide +kernel
theorem dX3_fits_0 : decode cX3_fits 0 = .ok (.aload_n 0, 1) := by decide +kernel
theorem dX3_fits_1 : decode cX3_fits 1 = .ok (.getfield 31, 3) := by decide +kernel
theorem dX3_fits_4 : decode cX3_fits 4 = .ok (.ifnonnull 5, 3) := by decide +kernel
theorem dX3_fits_7 : decode cX3_fits 7 = .ok (.iconst 0, 1) := by decide +kernel
theorem dX3_fits_8 : decode cX3_fits 8 = .ok (.ireturn, 1) := by decide +kernel
theorem dX3_fits_9 : decode cX3_fits 9 = .ok (.iconst 0, 1) := by decide +kernel
theorem dX3_fits_10 : decode cX3_fits 10 = .ok (.istore_n 1, 1) := by decide +kernel
theorem dX3_fits_11 : decode cX3_fits 11 = .ok (.iload_n 1, 1) := by decide +kernel
theorem dX3_fits_12 : decode cX3_fits 12 = .ok (.aload_n 0, 1) := by decide +kernel
theorem dX3_fits_13 : decode cX3_fits 13 = .ok (.getfield 38, 3) := by decide +kernel
theorem dX3_fits_16 : decode cX3_fits 16 = .ok (.if_icmp .ge 54, 3) := by decide +kernel
theorem dX3_fits_19 : decode cX3_fits 19 = .ok (.aload_n 0, 1) := by decide +kernel
theorem dX3_fits_20 : decode cX3_fits 20 = .ok (.getfield 12, 3) := by decide +kernel
theorem dX3_fits_23 : decode cX3_fits 23 = .ok (.invokevirtual 60, 3) := by decide +kernel
theorem dX3_fits_26 : decode cX3_fits 26 = .ok (.aload_n 0, 1) := by decide +kernel
theorem dX3_fits_27 : decode cX3_fits 27 = .ok (.getfield 31, 3) := by decide +kernel
theorem dX3_fits_30 : decode cX3_fits 30 = .ok (.aload_n 0, 1) := by decide +kernel
theorem dX3_fits_31 : decode cX3_fits 31 = .ok (.getfield 34, 3) := by decide +kernel
theorem dX3_fits_34 : decode cX3_fits 34 = .ok (.iload_n 1, 1) := by decide +kernel
theorem dX3_fits_35 : decode cX3_fits 35 = .ok (.iadd, 1) := by decide +kernel
theorem dX3_fits_36 : decode cX3_fits 36 = .ok (.iaload, 1) := by decide +kernel
theorem dX3_fits_37 : decode cX3_fits 37 = .ok (.aload_n 0, 1) := by decide +kernel
theorem dX3_fits_38 : decode cX3_fits 38 = .ok (.getfield 12, 3) := by decide +kernel
theorem dX3_fits_41 : decode cX3_fits 41 = .ok (.bipush 8, 2) := by decide +kernel
theorem dX3_fits_43 : decode cX3_fits 43 = .ok (.invokevirtual 74, 3) := by decide +kernel
theorem dX3_fits_46 : decode cX3_fits 46 = .ok (.bipush 10, 2) := by decide +kernel
theorem dX3_fits_48 : decode cX3_fits 48 = .ok (.aload_n 0, 1) := by decide +kernel
theorem dX3_fits_49 : decode cX3_fits 49 = .ok (.getfield 12, 3) := by decide +kernel
theorem dX3_fits_52 : decode cX3_fits 52 = .ok (.bipush 9, 2) := by decide +kernel
theorem dX3_fits_54 : decode cX3_fits 54 = .ok (.invokevirtual 74, 3) := by decide +kernel
theorem dX3_fits_57 : decode cX3_fits 57 = .ok (.imul, 1) := by decide +kernel
theorem dX3_fits_58 : decode cX3_fits 58 = .ok (.iadd, 1) := by decide +kernel
theorem dX3_fits_59 : decode cX3_fits 59 = .ok (.if_icmp .eq 5, 3) := by decide +kernel
theorem dX3_fits_62 : decode cX3_fits 62 = .ok (.iconst 0, 1) := by decide +kernel
theorem dX3_fits_63 : decode cX3_fits 63 = .ok (.ireturn, 1) := by decide +kernel
theorem dX3_fits_64 : decode cX3_fits 64 = .ok (.iinc 1 1, 3) := by decide +kernel
theorem dX3_fits_67 : decode cX3_fits 67 = .ok (.goto (-56), 3) := by decide +kernel
theorem dX3_fits_70 : decode cX3_fits 70 = .ok (.iconst 1, 1) := by decide +kernel
theorem dX3_fits_71 : decode cX3_fits 71 = .ok (.ireturn, 1) := by decide +kernel
theorem dX3_bitIfFit_0 : decode cX3_bitIfFit 0 = .ok (.aload_n 0, 1) := by decide +kernel
theorem dX3_bitIfFit_1 : decode cX3_bitIfFit 1 = .ok (.invokevirtual 142, 3) := by decide +kernel
theorem dX3_bitIfFit_4 : decode cX3_bitIfFit 4 = .ok (.ifCond .eq 9, 3) := by decide +kernel
theorem dX3_bitIfFit_7 : decode cX3_bitIfFit 7 = .ok (.iconst 1, 1) := by decide +kernel
theorem dX3_bitIfFit_8 : decode cX3_bitIfFit 8 = .ok (.iload_n 1, 1) := by decide +kernel
theorem dX3_bitIfFit_9 : decode cX3_bitIfFit 9 = .ok (.ishl, 1) := by decide +kernel
theorem dX3_bitIfFit_10 : decode cX3_bitIfFit 10 = .ok (.goto 4, 3) := by decide +kernel
theorem dX3_bitIfFit_13 : decode cX3_bitIfFit 13 = .ok (.iconst 0, 1) := by decide +kernel
theorem dX3_bitIfFit_14 : decode cX3_bitIfFit 14 = .ok (.ireturn, 1) := by decide +kernel
theorem dX3_kindsThatFit_0 : decode cX3_kindsThatFit 0 = .ok (.iconst 0, 1) := by decide +kernel
theorem dX3_kindsThatFit_1 : decode cX3_kindsThatFit 1 = .ok (.istore_n 3, 1) := by decide +kernel
theorem dX3_kindsThatFit_2 : decode cX3_kindsThatFit 2 = .ok (.iconst 1, 1) := by decide +kernel
theorem dX3_kindsThatFit_3 : decode cX3_kindsThatFit 3 = .ok (.istore 4, 2) := by decide +kernel
theorem dX3_kindsThatFit_5 : decode cX3_kindsThatFit 5 = .ok (.iload 4, 2) := by decide +kernel
theorem dX3_kindsThatFit_7 : decode cX3_kindsThatFit 7 = .ok (.iconst 5, 1) := by decide +kernel
theorem dX3_kindsThatFit_8 : decode cX3_kindsThatFit 8 = .ok (.if_icmp .gt 37, 3) := by decide +kernel
theorem dX3_kindsThatFit_11 : decode cX3_kindsThatFit 11 = .ok (.aload_n 0, 1) := by decide +kernel
theorem dX3_kindsThatFit_12 : decode cX3_kindsThatFit 12 = .ok (.getfield 12, 3) := by decide +kernel
theorem dX3_kindsThatFit_15 : decode cX3_kindsThatFit 15 = .ok (.aload_n 1, 1) := by decide +kernel
theorem dX3_kindsThatFit_16 : decode cX3_kindsThatFit 16 = .ok (.invokevirtual 48, 3) := by decide +kernel
theorem dX3_kindsThatFit_19 : decode cX3_kindsThatFit 19 = .ok (.aload_n 0, 1) := by decide +kernel
theorem dX3_kindsThatFit_20 : decode cX3_kindsThatFit 20 = .ok (.getfield 12, 3) := by decide +kernel
theorem dX3_kindsThatFit_23 : decode cX3_kindsThatFit 23 = .ok (.getfield 145, 3) := by decide +kernel
theorem dX3_kindsThatFit_26 : decode cX3_kindsThatFit 26 = .ok (.iload_n 2, 1) := by decide +kernel
theorem dX3_kindsThatFit_27 : decode cX3_kindsThatFit 27 = .ok (.iload 4, 2) := by decide +kernel
theorem dX3_kindsThatFit_29 : decode cX3_kindsThatFit 29 = .ok (.iastore, 1) := by decide +kernel
theorem dX3_kindsThatFit_30 : decode cX3_kindsThatFit 30 = .ok (.iload_n 3, 1) := by decide +kernel
theorem dX3_kindsThatFit_31 : decode cX3_kindsThatFit 31 = .ok (.aload_n 0, 1) := by decide +kernel
theorem dX3_kindsThatFit_32 : decode cX3_kindsThatFit 32 = .ok (.iload 4, 2) := by decide +kernel
theorem dX3_kindsThatFit_34 : decode cX3_kindsThatFit 34 = .ok (.invokevirtual 148, 3) := by decide +kernel
theorem dX3_kindsThatFit_37 : decode cX3_kindsThatFit 37 = .ok (.ior, 1) := by decide +kernel
theorem dX3_kindsThatFit_38 : decode cX3_kindsThatFit 38 = .ok (.istore_n 3, 1) := by decide +kernel
theorem dX3_kindsThatFit_39 : decode cX3_kindsThatFit 39 = .ok (.iinc 4 1, 3) := by decide +kernel
theorem dX3_kindsThatFit_42 : decode cX3_kindsThatFit 42 = .ok (.goto (-37), 3) := by decide +kernel
theorem dX3_kindsThatFit_45 : decode cX3_kindsThatFit 45 = .ok (.iload_n 3, 1) := by decide +kernel
theorem dX3_kindsThatFit_46 : decode cX3_kindsThatFit 46 = .ok (.ireturn, 1) := by decide +kernel
theorem dX3_pointsThatFit_0 : decode cX3_pointsThatFit 0 = .ok (.iconst 0, 1) := by decide +kernel
theorem dX3_pointsThatFit_1 : decode cX3_pointsThatFit 1 = .ok (.istore_n 3, 1) := by decide +kernel
theorem dX3_pointsThatFit_2 : decode cX3_pointsThatFit 2 = .ok (.iconst 0, 1) := by decide +kernel
theorem dX3_pointsThatFit_3 : decode cX3_pointsThatFit 3 = .ok (.istore 4, 2) := by decide +kernel
theorem dX3_pointsThatFit_5 : decode cX3_pointsThatFit 5 = .ok (.iload 4, 2) := by decide +kernel
theorem dX3_pointsThatFit_7 : decode cX3_pointsThatFit 7 = .ok (.iconst 1, 1) := by decide +kernel
theorem dX3_pointsThatFit_8 : decode cX3_pointsThatFit 8 = .ok (.if_icmp .gt 37, 3) := by decide +kernel
theorem dX3_pointsThatFit_11 : decode cX3_pointsThatFit 11 = .ok (.aload_n 0, 1) := by decide +kernel
theorem dX3_pointsThatFit_12 : decode cX3_pointsThatFit 12 = .ok (.getfield 12, 3) := by decide +kernel
theorem dX3_pointsThatFit_15 : decode cX3_pointsThatFit 15 = .ok (.aload_n 1, 1) := by decide +kernel
theorem dX3_pointsThatFit_16 : decode cX3_pointsThatFit 16 = .ok (.invokevirtual 48, 3) := by decide +kernel
theorem dX3_pointsThatFit_19 : decode cX3_pointsThatFit 19 = .ok (.aload_n 0, 1) := by decide +kernel
theorem dX3_pointsThatFit_20 : decode cX3_pointsThatFit 20 = .ok (.getfield 12, 3) := by decide +kernel
theorem dX3_pointsThatFit_23 : decode cX3_pointsThatFit 23 = .ok (.getfield 151, 3) := by decide +kernel
theorem dX3_pointsThatFit_26 : decode cX3_pointsThatFit 26 = .ok (.iload_n 2, 1) := by decide +kernel
theorem dX3_pointsThatFit_27 : decode cX3_pointsThatFit 27 = .ok (.iload 4, 2) := by decide +kernel
theorem dX3_pointsThatFit_29 : decode cX3_pointsThatFit 29 = .ok (.iastore, 1) := by decide +kernel
theorem dX3_pointsThatFit_30 : decode cX3_pointsThatFit 30 = .ok (.iload_n 3, 1) := by decide +kernel
theorem dX3_pointsThatFit_31 : decode cX3_pointsThatFit 31 = .ok (.aload_n 0, 1) := by decide +kernel
theorem dX3_pointsThatFit_32 : decode cX3_pointsThatFit 32 = .ok (.iload 4, 2) := by decide +kernel
theorem dX3_pointsThatFit_34 : decode cX3_pointsThatFit 34 = .ok (.invokevirtual 148, 3) := by decide +kernel
theorem dX3_pointsThatFit_37 : decode cX3_pointsThatFit 37 = .ok (.ior, 1) := by decide +kernel
theorem dX3_pointsThatFit_38 : decode cX3_pointsThatFit 38 = .ok (.istore_n 3, 1) := by decide +kernel
theorem dX3_pointsThatFit_39 : decode cX3_pointsThatFit 39 = .ok (.iinc 4 1, 3) := by decide +kernel
theorem dX3_pointsThatFit_42 : decode cX3_pointsThatFit 42 = .ok (.goto (-37), 3) := by decide +kernel
theorem dX3_pointsThatFit_45 : decode cX3_pointsThatFit 45 = .ok (.iload_n 3, 1) := by decide +kernel
theorem dX3_pointsThatFit_46 : decode cX3_pointsThatFit 46 = .ok (.ireturn, 1) := by decide +kernel
theorem dX3_weightsThatFit_0 : decode cX3_weightsThatFit 0 = .ok (.iconst 0, 1) := by decide +kernel
theorem dX3_weightsThatFit_1 : decode cX3_weightsThatFit 1 = .ok (.istore_n 3, 1) := by decide +kernel
theorem dX3_weightsThatFit_2 : decode cX3_weightsThatFit 2 = .ok (.iconst 1, 1) := by decide +kernel
theorem dX3_weightsThatFit_3 : decode cX3_weightsThatFit 3 = .ok (.istore 4, 2) := by decide +kernel
theorem dX3_weightsThatFit_5 : decode cX3_weightsThatFit 5 = .ok (.iload 4, 2) := by decide +kernel
theorem dX3_weightsThatFit_7 : decode cX3_weightsThatFit 7 = .ok (.bipush 9, 2) := by decide +kernel
theorem dX3_weightsThatFit_9 : decode cX3_weightsThatFit 9 = .ok (.if_icmp .gt 37, 3) := by decide +kernel
theorem dX3_weightsThatFit_12 : decode cX3_weightsThatFit 12 = .ok (.aload_n 0, 1) := by decide +kernel
theorem dX3_weightsThatFit_13 : decode cX3_weightsThatFit 13 = .ok (.getfield 12, 3) := by decide +kernel
theorem dX3_weightsThatFit_16 : decode cX3_weightsThatFit 16 = .ok (.aload_n 1, 1) := by decide +kernel
theorem dX3_weightsThatFit_17 : decode cX3_weightsThatFit 17 = .ok (.invokevirtual 48, 3) := by decide +kernel
theorem dX3_weightsThatFit_20 : decode cX3_weightsThatFit 20 = .ok (.aload_n 0, 1) := by decide +kernel
theorem dX3_weightsThatFit_21 : decode cX3_weightsThatFit 21 = .ok (.getfield 12, 3) := by decide +kernel
theorem dX3_weightsThatFit_24 : decode cX3_weightsThatFit 24 = .ok (.getfield 104, 3) := by decide +kernel
theorem dX3_weightsThatFit_27 : decode cX3_weightsThatFit 27 = .ok (.iload_n 2, 1) := by decide +kernel
theorem dX3_weightsThatFit_28 : decode cX3_weightsThatFit 28 = .ok (.iload 4, 2) := by decide +kernel
theorem dX3_weightsThatFit_30 : decode cX3_weightsThatFit 30 = .ok (.iastore, 1) := by decide +kernel
theorem dX3_weightsThatFit_31 : decode cX3_weightsThatFit 31 = .ok (.iload_n 3, 1) := by decide +kernel
theorem dX3_weightsThatFit_32 : decode cX3_weightsThatFit 32 = .ok (.aload_n 0, 1) := by decide +kernel
theorem dX3_weightsThatFit_33 : decode cX3_weightsThatFit 33 = .ok (.iload 4, 2) := by decide +kernel
theorem dX3_weightsThatFit_35 : decode cX3_weightsThatFit 35 = .ok (.invokevirtual 148, 3) := by decide +kernel
theorem dX3_weightsThatFit_38 : decode cX3_weightsThatFit 38 = .ok (.ior, 1) := by decide +kernel
theorem dX3_weightsThatFit_39 : decode cX3_weightsThatFit 39 = .ok (.istore_n 3, 1) := by decide +kernel
theorem dX3_weightsThatFit_40 : decode cX3_weightsThatFit 40 = .ok (.iinc 4 1, 3) := by decide +kernel
theorem dX3_weightsThatFit_43 : decode cX3_weightsThatFit 43 = .ok (.goto (-38), 3) := by decide +kernel
theorem dX3_weightsThatFit_46 : decode cX3_weightsThatFit 46 = .ok (.iload_n 3, 1) := by decide +kernel
theorem dX3_weightsThatFit_47 : decode cX3_weightsThatFit 47 = .ok (.ireturn, 1) := by decide +kernel
theorem dX3_barsThatFit_0 : decode cX3_barsThatFit 0 = .ok (.iconst 0, 1) := by decide +kernel
theorem dX3_barsThatFit_1 : decode cX3_barsThatFit 1 = .ok (.istore_n 2, 1) := by decide +kernel
theorem dX3_barsThatFit_2 : decode cX3_barsThatFit 2 = .ok (.iconst 1, 1) := by decide +kernel
theorem dX3_barsThatFit_3 : decode cX3_barsThatFit 3 = .ok (.istore_n 3, 1) := by decide +kernel
theorem dX3_barsThatFit_4 : decode cX3_barsThatFit 4 = .ok (.iload_n 3, 1) := by decide +kernel
theorem dX3_barsThatFit_5 : decode cX3_barsThatFit 5 = .ok (.bipush 9, 2) := by decide +kernel
theorem dX3_barsThatFit_7 : decode cX3_barsThatFit 7 = .ok (.if_icmp .gt 33, 3) := by decide +kernel
theorem dX3_barsThatFit_10 : decode cX3_barsThatFit 10 = .ok (.aload_n 0, 1) := by decide +kernel
theorem dX3_barsThatFit_11 : decode cX3_barsThatFit 11 = .ok (.getfield 12, 3) := by decide +kernel
theorem dX3_barsThatFit_14 : decode cX3_barsThatFit 14 = .ok (.aload_n 1, 1) := by decide +kernel
theorem dX3_barsThatFit_15 : decode cX3_barsThatFit 15 = .ok (.invokevirtual 48, 3) := by decide +kernel
theorem dX3_barsThatFit_18 : decode cX3_barsThatFit 18 = .ok (.aload_n 0, 1) := by decide +kernel
theorem dX3_barsThatFit_19 : decode cX3_barsThatFit 19 = .ok (.getfield 12, 3) := by decide +kernel
theorem dX3_barsThatFit_22 : decode cX3_barsThatFit 22 = .ok (.iload_n 3, 1) := by decide +kernel
theorem dX3_barsThatFit_23 : decode cX3_barsThatFit 23 = .ok (.putfield 154, 3) := by decide +kernel
theorem dX3_barsThatFit_26 : decode cX3_barsThatFit 26 = .ok (.iload_n 2, 1) := by decide +kernel
theorem dX3_barsThatFit_27 : decode cX3_barsThatFit 27 = .ok (.aload_n 0, 1) := by decide +kernel
theorem dX3_barsThatFit_28 : decode cX3_barsThatFit 28 = .ok (.iload_n 3, 1) := by decide +kernel
theorem dX3_barsThatFit_29 : decode cX3_barsThatFit 29 = .ok (.invokevirtual 148, 3) := by decide +kernel
theorem dX3_barsThatFit_32 : decode cX3_barsThatFit 32 = .ok (.ior, 1) := by decide +kernel
theorem dX3_barsThatFit_33 : decode cX3_barsThatFit 33 = .ok (.istore_n 2, 1) := by decide +kernel
theorem dX3_barsThatFit_34 : decode cX3_barsThatFit 34 = .ok (.iinc 3 1, 3) := by decide +kernel
theorem dX3_barsThatFit_37 : decode cX3_barsThatFit 37 = .ok (.goto (-33), 3) := by decide +kernel
theorem dX3_barsThatFit_40 : decode cX3_barsThatFit 40 = .ok (.iload_n 2, 1) := by decide +kernel
theorem dX3_barsThatFit_41 : decode cX3_barsThatFit 41 = .ok (.ireturn, 1) := by decide +kernel
theorem dX3_jamCases_0 : decode cX3_jamCases 0 = .ok (.lconst 0, 1) := by decide +kernel
theorem dX3_jamCases_1 : decode cX3_jamCases 1 = .ok (.lstore 5, 2) := by decide +kernel
theorem dX3_jamCases_3 : decode cX3_jamCases 3 = .ok (.iconst 0, 1) := by decide +kernel
theorem dX3_jamCases_4 : decode cX3_jamCases 4 = .ok (.istore 7, 2) := by decide +kernel
theorem dX3_jamCases_6 : decode cX3_jamCases 6 = .ok (.iload 7, 2) := by decide +kernel
theorem dX3_jamCases_8 : decode cX3_jamCases 8 = .ok (.iconst 1, 1) := by decide +kernel
theorem dX3_jamCases_9 : decode cX3_jamCases 9 = .ok (.aload_n 1, 1) := by decide +kernel
theorem dX3_jamCases_10 : decode cX3_jamCases 10 = .ok (.getfield 122, 3) := by decide +kernel
theorem dX3_jamCases_13 : decode cX3_jamCases 13 = .ok (.ishl, 1) := by decide +kernel
theorem dX3_jamCases_14 : decode cX3_jamCases 14 = .ok (.if_icmp .ge 97, 3) := by decide +kernel
theorem dX3_jamCases_17 : decode cX3_jamCases 17 = .ok (.iload 7, 2) := by decide +kernel
theorem dX3_jamCases_19 : decode cX3_jamCases 19 = .ok (.invokestatic 82, 3) := by decide +kernel
theorem dX3_jamCases_22 : decode cX3_jamCases 22 = .ok (.istore 8, 2) := by decide +kernel
theorem dX3_jamCases_24 : decode cX3_jamCases 24 = .ok (.iload 4, 2) := by decide +kernel
theorem dX3_jamCases_26 : decode cX3_jamCases 26 = .ok (.i2l, 1) := by decide +kernel
theorem dX3_jamCases_27 : decode cX3_jamCases 27 = .ok (.iload 8, 2) := by decide +kernel
theorem dX3_jamCases_29 : decode cX3_jamCases 29 = .ok (.invokestatic 157, 3) := by decide +kernel
theorem dX3_jamCases_32 : decode cX3_jamCases 32 = .ok (.bipush 10, 2) := by decide +kernel
theorem dX3_jamCases_34 : decode cX3_jamCases 34 = .ok (.iload 4, 2) := by decide +kernel
theorem dX3_jamCases_36 : decode cX3_jamCases 36 = .ok (.isub, 1) := by decide +kernel
theorem dX3_jamCases_37 : decode cX3_jamCases 37 = .ok (.i2l, 1) := by decide +kernel
theorem dX3_jamCases_38 : decode cX3_jamCases 38 = .ok (.aload_n 1, 1) := by decide +kernel
theorem dX3_jamCases_39 : decode cX3_jamCases 39 = .ok (.getfield 122, 3) := by decide +kernel
theorem dX3_jamCases_42 : decode cX3_jamCases 42 = .ok (.iload 8, 2) := by decide +kernel
theorem dX3_jamCases_44 : decode cX3_jamCases 44 = .ok (.isub, 1) := by decide +kernel
theorem dX3_jamCases_45 : decode cX3_jamCases 45 = .ok (.invokestatic 157, 3) := by decide +kernel
theorem dX3_jamCases_48 : decode cX3_jamCases 48 = .ok (.lmul, 1) := by decide +kernel
theorem dX3_jamCases_49 : decode cX3_jamCases 49 = .ok (.lstore 9, 2) := by decide +kernel
theorem dX3_jamCases_51 : decode cX3_jamCases 51 = .ok (.lload 9, 2) := by decide +kernel
theorem dX3_jamCases_53 : decode cX3_jamCases 53 = .ok (.lconst 0, 1) := by decide +kernel
theorem dX3_jamCases_54 : decode cX3_jamCases 54 = .ok (.lcmp, 1) := by decide +kernel
theorem dX3_jamCases_55 : decode cX3_jamCases 55 = .ok (.ifCond .le 50, 3) := by decide +kernel
theorem dX3_jamCases_58 : decode cX3_jamCases 58 = .ok (.aload_n 0, 1) := by decide +kernel
theorem dX3_jamCases_59 : decode cX3_jamCases 59 = .ok (.getfield 12, 3) := by decide +kernel
theorem dX3_jamCases_62 : decode cX3_jamCases 62 = .ok (.aload_n 1, 1) := by decide +kernel
theorem dX3_jamCases_63 : decode cX3_jamCases 63 = .ok (.invokevirtual 48, 3) := by decide +kernel
theorem dX3_jamCases_66 : decode cX3_jamCases 66 = .ok (.aload_n 0, 1) := by decide +kernel
theorem dX3_jamCases_67 : decode cX3_jamCases 67 = .ok (.getfield 12, 3) := by decide +kernel
theorem dX3_jamCases_70 : decode cX3_jamCases 70 = .ok (.iload 7, 2) := by decide +kernel
theorem dX3_jamCases_72 : decode cX3_jamCases 72 = .ok (.putfield 161, 3) := by decide +kernel
theorem dX3_jamCases_75 : decode cX3_jamCases 75 = .ok (.aload_n 0, 1) := by decide +kernel
theorem dX3_jamCases_76 : decode cX3_jamCases 76 = .ok (.iload_n 3, 1) := by decide +kernel
theorem dX3_jamCases_77 : decode cX3_jamCases 77 = .ok (.invokevirtual 52, 3) := by decide +kernel
theorem dX3_jamCases_80 : decode cX3_jamCases 80 = .ok (.lload 5, 2) := by decide +kernel
theorem dX3_jamCases_82 : decode cX3_jamCases 82 = .ok (.aload_n 0, 1) := by decide +kernel
theorem dX3_jamCases_83 : decode cX3_jamCases 83 = .ok (.getfield 12, 3) := by decide +kernel
theorem dX3_jamCases_86 : decode cX3_jamCases 86 = .ok (.getfield 164, 3) := by decide +kernel
theorem dX3_jamCases_89 : decode cX3_jamCases 89 = .ok (.iload_n 2, 1) := by decide +kernel
theorem dX3_jamCases_90 : decode cX3_jamCases 90 = .ok (.iaload, 1) := by decide +kernel
theorem dX3_jamCases_91 : decode cX3_jamCases 91 = .ok (.bipush 9, 2) := by decide +kernel
theorem dX3_jamCases_93 : decode cX3_jamCases 93 = .ok (.if_icmp .ne 8, 3) := by decide +kernel
theorem dX3_jamCases_96 : decode cX3_jamCases 96 = .ok (.lload 9, 2) := by decide +kernel
theorem dX3_jamCases_98 : decode cX3_jamCases 98 = .ok (.goto 4, 3) := by decide +kernel
theorem dX3_jamCases_101 : decode cX3_jamCases 101 = .ok (.lconst 0, 1) := by decide +kernel
theorem dX3_jamCases_102 : decode cX3_jamCases 102 = .ok (.ladd, 1) := by decide +kernel
theorem dX3_jamCases_103 : decode cX3_jamCases 103 = .ok (.lstore 5, 2) := by decide +kernel
theorem dX3_jamCases_105 : decode cX3_jamCases 105 = .ok (.iinc 7 1, 3) := by decide +kernel
theorem dX3_jamCases_108 : decode cX3_jamCases 108 = .ok (.goto (-102), 3) := by decide +kernel
theorem dX3_jamCases_111 : decode cX3_jamCases 111 = .ok (.lload 5, 2) := by decide +kernel
theorem dX3_jamCases_113 : decode cX3_jamCases 113 = .ok (.lreturn, 1) := by decide +kernel
theorem dX3_cameByDraws_0 : decode cX3_cameByDraws 0 = .ok (.aload_n 0, 1) := by decide +kernel
theorem dX3_cameByDraws_1 : decode cX3_cameByDraws 1 = .ok (.getfield 12, 3) := by decide +kernel
theorem dX3_cameByDraws_4 : decode cX3_cameByDraws 4 = .ok (.aload_n 1, 1) := by decide +kernel
theorem dX3_cameByDraws_5 : decode cX3_cameByDraws 5 = .ok (.invokevirtual 48, 3) := by decide +kernel
theorem dX3_cameByDraws_8 : decode cX3_cameByDraws 8 = .ok (.iload_n 3, 1) := by decide +kernel
theorem dX3_cameByDraws_9 : decode cX3_cameByDraws 9 = .ok (.i2l, 1) := by decide +kernel
theorem dX3_cameByDraws_10 : decode cX3_cameByDraws 10 = .ok (.lstore 5, 2) := by decide +kernel
theorem dX3_cameByDraws_12 : decode cX3_cameByDraws 12 = .ok (.iconst 0, 1) := by decide +kernel
theorem dX3_cameByDraws_13 : decode cX3_cameByDraws 13 = .ok (.istore 7, 2) := by decide +kernel
theorem dX3_cameByDraws_15 : decode cX3_cameByDraws 15 = .ok (.iconst 0, 1) := by decide +kernel
theorem dX3_cameByDraws_16 : decode cX3_cameByDraws 16 = .ok (.istore 8, 2) := by decide +kernel
theorem dX3_cameByDraws_18 : decode cX3_cameByDraws 18 = .ok (.iload 8, 2) := by decide +kernel
theorem dX3_cameByDraws_20 : decode cX3_cameByDraws 20 = .ok (.iload_n 2, 1) := by decide +kernel
theorem dX3_cameByDraws_21 : decode cX3_cameByDraws 21 = .ok (.if_icmp .ge 68, 3) := by decide +kernel
theorem dX3_cameByDraws_24 : decode cX3_cameByDraws 24 = .ok (.lload 5, 2) := by decide +kernel
theorem dX3_cameByDraws_26 : decode cX3_cameByDraws 26 = .ok (.ldc2_w 167, 3) := by decide +kernel
theorem dX3_cameByDraws_29 : decode cX3_cameByDraws 29 = .ok (.lmul, 1) := by decide +kernel
theorem dX3_cameByDraws_30 : decode cX3_cameByDraws 30 = .ok (.ldc2_w 169, 3) := by decide +kernel
theorem dX3_cameByDraws_33 : decode cX3_cameByDraws 33 = .ok (.lrem, 1) := by decide +kernel
theorem dX3_cameByDraws_34 : decode cX3_cameByDraws 34 = .ok (.lstore 5, 2) := by decide +kernel
theorem dX3_cameByDraws_36 : decode cX3_cameByDraws 36 = .ok (.aload_n 0, 1) := by decide +kernel
theorem dX3_cameByDraws_37 : decode cX3_cameByDraws 37 = .ok (.lload 5, 2) := by decide +kernel
theorem dX3_cameByDraws_39 : decode cX3_cameByDraws 39 = .ok (.l2i, 1) := by decide +kernel
theorem dX3_cameByDraws_40 : decode cX3_cameByDraws 40 = .ok (.invokevirtual 171, 3) := by decide +kernel
theorem dX3_cameByDraws_43 : decode cX3_cameByDraws 43 = .ok (.aload_n 0, 1) := by decide +kernel
theorem dX3_cameByDraws_44 : decode cX3_cameByDraws 44 = .ok (.getfield 12, 3) := by decide +kernel
theorem dX3_cameByDraws_47 : decode cX3_cameByDraws 47 = .ok (.iload 4, 2) := by decide +kernel
theorem dX3_cameByDraws_49 : decode cX3_cameByDraws 49 = .ok (.invokevirtual 107, 3) := by decide +kernel
theorem dX3_cameByDraws_52 : decode cX3_cameByDraws 52 = .ok (.istore 9, 2) := by decide +kernel
theorem dX3_cameByDraws_54 : decode cX3_cameByDraws 54 = .ok (.aload_n 0, 1) := by decide +kernel
theorem dX3_cameByDraws_55 : decode cX3_cameByDraws 55 = .ok (.getfield 12, 3) := by decide +kernel
theorem dX3_cameByDraws_58 : decode cX3_cameByDraws 58 = .ok (.invokevirtual 60, 3) := by decide +kernel
theorem dX3_cameByDraws_61 : decode cX3_cameByDraws 61 = .ok (.iload 7, 2) := by decide +kernel
theorem dX3_cameByDraws_63 : decode cX3_cameByDraws 63 = .ok (.aload_n 0, 1) := by decide +kernel
theorem dX3_cameByDraws_64 : decode cX3_cameByDraws 64 = .ok (.getfield 12, 3) := by decide +kernel
theorem dX3_cameByDraws_67 : decode cX3_cameByDraws 67 = .ok (.iload 4, 2) := by decide +kernel
theorem dX3_cameByDraws_69 : decode cX3_cameByDraws 69 = .ok (.invokevirtual 107, 3) := by decide +kernel
theorem dX3_cameByDraws_72 : decode cX3_cameByDraws 72 = .ok (.iload 9, 2) := by decide +kernel
theorem dX3_cameByDraws_74 : decode cX3_cameByDraws 74 = .ok (.iconst (-1), 1) := by decide +kernel
theorem dX3_cameByDraws_75 : decode cX3_cameByDraws 75 = .ok (.ixor, 1) := by decide +kernel
theorem dX3_cameByDraws_76 : decode cX3_cameByDraws 76 = .ok (.iand, 1) := by decide +kernel
theorem dX3_cameByDraws_77 : decode cX3_cameByDraws 77 = .ok (.invokestatic 82, 3) := by decide +kernel
theorem dX3_cameByDraws_80 : decode cX3_cameByDraws 80 = .ok (.iadd, 1) := by decide +kernel
theorem dX3_cameByDraws_81 : decode cX3_cameByDraws 81 = .ok (.istore 7, 2) := by decide +kernel
theorem dX3_cameByDraws_83 : decode cX3_cameByDraws 83 = .ok (.iinc 8 1, 3) := by decide +kernel
theorem dX3_cameByDraws_86 : decode cX3_cameByDraws 86 = .ok (.goto (-68), 3) := by decide +kernel
theorem dX3_cameByDraws_89 : decode cX3_cameByDraws 89 = .ok (.iload 7, 2) := by decide +kernel
theorem dX3_cameByDraws_91 : decode cX3_cameByDraws 91 = .ok (.ireturn, 1) := by decide +kernel
theorem dX3_disturb_0 : decode cX3_disturb 0 = .ok (.aload_n 0, 1) := by decide +kernel
theorem dX3_disturb_1 : decode cX3_disturb 1 = .ok (.getfield 12, 3) := by decide +kernel
theorem dX3_disturb_4 : decode cX3_disturb 4 = .ok (.getfield 90, 3) := by decide +kernel
theorem dX3_disturb_7 : decode cX3_disturb 7 = .ok (.ifCond .eq 13, 3) := by decide +kernel
theorem dX3_disturb_10 : decode cX3_disturb 10 = .ok (.aload_n 0, 1) := by decide +kernel
theorem dX3_disturb_11 : decode cX3_disturb 11 = .ok (.getfield 12, 3) := by decide +kernel
theorem dX3_disturb_14 : decode cX3_disturb 14 = .ok (.getfield 122, 3) := by decide +kernel
theorem dX3_disturb_17 : decode cX3_disturb 17 = .ok (.ifCond .ne 4, 3) := by decide +kernel
theorem dX3_disturb_20 : decode cX3_disturb 20 = .ok (.return_, 1) := by decide +kernel
theorem dX3_disturb_21 : decode cX3_disturb 21 = .ok (.iload_n 1, 1) := by decide +kernel
theorem dX3_disturb_22 : decode cX3_disturb 22 = .ok (.aload_n 0, 1) := by decide +kernel
theorem dX3_disturb_23 : decode cX3_disturb 23 = .ok (.getfield 12, 3) := by decide +kernel
theorem dX3_disturb_26 : decode cX3_disturb 26 = .ok (.getfield 90, 3) := by decide +kernel
theorem dX3_disturb_29 : decode cX3_disturb 29 = .ok (.irem, 1) := by decide +kernel
theorem dX3_disturb_30 : decode cX3_disturb 30 = .ok (.istore_n 2, 1) := by decide +kernel
theorem dX3_disturb_31 : decode cX3_disturb 31 = .ok (.aload_n 0, 1) := by decide +kernel
theorem dX3_disturb_32 : decode cX3_disturb 32 = .ok (.getfield 12, 3) := by decide +kernel
theorem dX3_disturb_35 : decode cX3_disturb 35 = .ok (.iload_n 2, 1) := by decide +kernel
theorem dX3_disturb_36 : decode cX3_disturb 36 = .ok (.invokevirtual 63, 3) := by decide +kernel
theorem dX3_disturb_39 : decode cX3_disturb 39 = .ok (.ifCond .eq 20, 3) := by decide +kernel
theorem dX3_disturb_42 : decode cX3_disturb 42 = .ok (.aload_n 0, 1) := by decide +kernel
theorem dX3_disturb_43 : decode cX3_disturb 43 = .ok (.getfield 12, 3) := by decide +kernel
theorem dX3_disturb_46 : decode cX3_disturb 46 = .ok (.iload_n 2, 1) := by decide +kernel
theorem dX3_disturb_47 : decode cX3_disturb 47 = .ok (.iload_n 1, 1) := by decide +kernel
theorem dX3_disturb_48 : decode cX3_disturb 48 = .ok (.bipush 9, 2) := by decide +kernel
theorem dX3_disturb_50 : decode cX3_disturb 50 = .ok (.irem, 1) := by decide +kernel
theorem dX3_disturb_51 : decode cX3_disturb 51 = .ok (.iconst 1, 1) := by decide +kernel
theorem dX3_disturb_52 : decode cX3_disturb 52 = .ok (.iadd, 1) := by decide +kernel
theorem dX3_disturb_53 : decode cX3_disturb 53 = .ok (.invokevirtual 174, 3) := by decide +kernel
theorem dX3_disturb_56 : decode cX3_disturb 56 = .ok (.goto 25, 3) := by decide +kernel
theorem dX3_disturb_59 : decode cX3_disturb 59 = .ok (.iload_n 1, 1) := by decide +kernel
theorem dX3_disturb_60 : decode cX3_disturb 60 = .ok (.iconst 3, 1) := by decide +kernel
theorem dX3_disturb_61 : decode cX3_disturb 61 = .ok (.irem, 1) := by decide +kernel
theorem dX3_disturb_62 : decode cX3_disturb 62 = .ok (.ifCond .ne 19, 3) := by decide +kernel
theorem dX3_disturb_65 : decode cX3_disturb 65 = .ok (.aload_n 0, 1) := by decide +kernel
theorem dX3_disturb_66 : decode cX3_disturb 66 = .ok (.getfield 12, 3) := by decide +kernel
theorem dX3_disturb_69 : decode cX3_disturb 69 = .ok (.iload_n 1, 1) := by decide +kernel
theorem dX3_disturb_70 : decode cX3_disturb 70 = .ok (.aload_n 0, 1) := by decide +kernel
theorem dX3_disturb_71 : decode cX3_disturb 71 = .ok (.getfield 12, 3) := by decide +kernel
theorem dX3_disturb_74 : decode cX3_disturb 74 = .ok (.getfield 122, 3) := by decide +kernel
theorem dX3_disturb_77 : decode cX3_disturb 77 = .ok (.irem, 1) := by decide +kernel
theorem dX3_disturb_78 : decode cX3_disturb 78 = .ok (.invokevirtual 177, 3) := by decide +kernel
theorem dX3_disturb_81 : decode cX3_disturb 81 = .ok (.return_, 1) := by decide +kernel
theorem dX4_init_0 : decode cX4_init 0 = .ok (.aload_n 0, 1) := by decide +kernel
theorem dX4_init_1 : decode cX4_init 1 = .ok (.invokespecial 3, 3) := by decide +kernel
theorem dX4_init_4 : decode cX4_init 4 = .ok (.aload_n 0, 1) := by decide +kernel
theorem dX4_init_5 : decode cX4_init 5 = .ok (.bipush 110, 2) := by decide +kernel
theorem dX4_init_7 : decode cX4_init 7 = .ok (.newarray .int, 2) := by decide +kernel
theorem dX4_init_9 : decode cX4_init 9 = .ok (.putfield 11, 3) := by decide +kernel
theorem dX4_init_12 : decode cX4_init 12 = .ok (.aload_n 0, 1) := by decide +kernel
theorem dX4_init_13 : decode cX4_init 13 = .ok (.iconst 0, 1) := by decide +kernel
theorem dX4_init_14 : decode cX4_init 14 = .ok (.putfield 15, 3) := by decide +kernel
theorem dX4_init_17 : decode cX4_init 17 = .ok (.aload_n 0, 1) := by decide +kernel
theorem dX4_init_18 : decode cX4_init 18 = .ok (.iconst 0, 1) := by decide +kernel
theorem dX4_init_19 : decode cX4_init 19 = .ok (.putfield 19, 3) := by decide +kernel
theorem dX4_init_22 : decode cX4_init 22 = .ok (.aload_n 0, 1) := by decide +kernel
theorem dX4_init_23 : decode cX4_init 23 = .ok (.iconst 0, 1) := by decide +kernel
theorem dX4_init_24 : decode cX4_init 24 = .ok (.putfield 22, 3) := by decide +kernel
theorem dX4_init_27 : decode cX4_init 27 = .ok (.aload_n 0, 1) := by decide +kernel
theorem dX4_init_28 : decode cX4_init 28 = .ok (.iconst 0, 1) := by decide +kernel
theorem dX4_init_29 : decode cX4_init 29 = .ok (.putfield 25, 3) := by decide +kernel
theorem dX4_init_32 : decode cX4_init 32 = .ok (.return_, 1) := by decide +kernel
theorem dX4_add_0 : decode cX4_add 0 = .ok (.aload_n 0, 1) := by decide +kernel
theorem dX4_add_1 : decode cX4_add 1 = .ok (.getfield 15, 3) := by decide +kernel
theorem dX4_add_4 : decode cX4_add 4 = .ok (.bipush 110, 2) := by decide +kernel
theorem dX4_add_6 : decode cX4_add 6 = .ok (.if_icmp .lt 5, 3) := by decide +kernel
theorem dX4_add_9 : decode cX4_add 9 = .ok (.iconst 0, 1) := by decide +kernel
theorem dX4_add_10 : decode cX4_add 10 = .ok (.ireturn, 1) := by decide +kernel
theorem dX4_add_11 : decode cX4_add 11 = .ok (.aload_n 0, 1) := by decide +kernel
theorem dX4_add_12 : decode cX4_add 12 = .ok (.getfield 11, 3) := by decide +kernel
theorem dX4_add_15 : decode cX4_add 15 = .ok (.aload_n 0, 1) := by decide +kernel
theorem dX4_add_16 : decode cX4_add 16 = .ok (.getfield 15, 3) := by decide +kernel
theorem dX4_add_19 : decode cX4_add 19 = .ok (.iload_n 1, 1) := by decide +kernel
theorem dX4_add_20 : decode cX4_add 20 = .ok (.iastore, 1) := by decide +kernel
theorem dX4_add_21 : decode cX4_add 21 = .ok (.aload_n 0, 1) := by decide +kernel
theorem dX4_add_22 : decode cX4_add 22 = .ok (.dup, 1) := by decide +kernel
theorem dX4_add_23 : decode cX4_add 23 = .ok (.getfield 15, 3) := by decide +kernel
theorem dX4_add_26 : decode cX4_add 26 = .ok (.iconst 1, 1) := by decide +kernel
theorem dX4_add_27 : decode cX4_add 27 = .ok (.iadd, 1) := by decide +kernel
theorem dX4_add_28 : decode cX4_add 28 = .ok (.putfield 15, 3) := by decide +kernel
theorem dX4_add_31 : decode cX4_add 31 = .ok (.iconst 1, 1) := by decide +kernel
theorem dX4_add_32 : decode cX4_add 32 = .ok (.ireturn, 1) := by decide +kernel
theorem dX4_length_0 : decode cX4_length 0 = .ok (.aload_n 0, 1) := by decide +kernel
theorem dX4_length_1 : decode cX4_length 1 = .ok (.getfield 15, 3) := by decide +kernel
theorem dX4_length_4 : decode cX4_length 4 = .ok (.ireturn, 1) := by decide +kernel
theorem dX4_clear_0 : decode cX4_clear 0 = .ok (.aload_n 0, 1) := by decide +kernel
theorem dX4_clear_1 : decode cX4_clear 1 = .ok (.iconst 0, 1) := by decide +kernel
theorem dX4_clear_2 : decode cX4_clear 2 = .ok (.putfield 15, 3) := by decide +kernel
theorem dX4_clear_5 : decode cX4_clear 5 = .ok (.return_, 1) := by decide +kernel
theorem dX4_faultNumber_0 : decode cX4_faultNumber 0 = .ok (.aload_n 0, 1) := by decide +kernel
theorem dX4_faultNumber_1 : decode cX4_faultNumber 1 = .ok (.getfield 25, 3) := by decide +kernel
theorem dX4_faultNumber_4 : decode cX4_faultNumber 4 = .ok (.ireturn, 1) := by decide +kernel
theorem dX4_faultPlace_0 : decode cX4_faultPlace 0 = .ok (.aload_n 0, 1) := by decide +kernel
theorem dX4_faultPlace_1 : decode cX4_faultPlace 1 = .ok (.getfield 19, 3) := by decide +kernel
theorem dX4_faultPlace_4 : decode cX4_faultPlace 4 = .ok (.ireturn, 1) := by decide +kernel
theorem dX4_readInto_0 : decode cX4_readInto 0 = .ok (.aload_n 0, 1) := by decide +kernel
theorem dX4_readInto_1 : decode cX4_readInto 1 = .ok (.iconst 0, 1) := by decide +kernel
theorem dX4_readInto_2 : decode cX4_readInto 2 = .ok (.putfield 19, 3) := by decide +kernel
theorem dX4_readInto_5 : decode cX4_readInto 5 = .ok (.aload_n 0, 1) := by decide +kernel
theorem dX4_readInto_6 : decode cX4_readInto 6 = .ok (.iconst 0, 1) := by decide +kernel
theorem dX4_readInto_7 : decode cX4_readInto 7 = .ok (.putfield 25, 3) := by decide +kernel
theorem dX4_readInto_10 : decode cX4_readInto 10 = .ok (.aload_n 1, 1) := by decide +kernel
theorem dX4_readInto_11 : decode cX4_readInto 11 = .ok (.invokevirtual 28, 3) := by decide +kernel
theorem dX4_readInto_14 : decode cX4_readInto 14 = .ok (.aload_n 0, 1) := by decide +kernel
theorem dX4_readInto_15 : decode cX4_readInto 15 = .ok (.aload_n 1, 1) := by decide +kernel
theorem dX4_readInto_16 : decode cX4_readInto 16 = .ok (.invokevirtual 33, 3) := by decide +kernel
theorem dX4_readInto_19 : decode cX4_readInto 19 = .ok (.ifCond .eq 23, 3) := by decide +kernel
theorem dX4_readInto_22 : decode cX4_readInto 22 = .ok (.aload_n 0, 1) := by decide +kernel
theorem dX4_readInto_23 : decode cX4_readInto 23 = .ok (.aload_n 1, 1) := by decide +kernel
theorem dX4_readInto_24 : decode cX4_readInto 24 = .ok (.invokevirtual 37, 3) := by decide +kernel
theorem dX4_readInto_27 : decode cX4_readInto 27 = .ok (.ifCond .eq 15, 3) := by decide +kernel
theorem dX4_readInto_30 : decode cX4_readInto 30 = .ok (.aload_n 0, 1) := by decide +kernel
theorem dX4_readInto_31 : decode cX4_readInto 31 = .ok (.aload_n 1, 1) := by decide +kernel
theorem dX4_readInto_32 : decode cX4_readInto 32 = .ok (.invokevirtual 40, 3) := by decide +kernel
theorem dX4_readInto_35 : decode cX4_readInto 35 = .ok (.ifCond .eq 7, 3) := by decide +kernel
theorem dX4_readInto_38 : decode cX4_readInto 38 = .ok (.iconst 1, 1) := by decide +kernel
theorem dX4_readInto_39 : decode cX4_readInto 39 = .ok (.goto 4, 3) := by decide +kernel
theorem dX4_readInto_42 : decode cX4_readInto 42 = .ok (.iconst 0, 1) := by decide +kernel
theorem dX4_readInto_43 : decode cX4_readInto 43 = .ok (.ireturn, 1) := by decide +kernel
theorem dX4_readLaw_0 : decode cX4_readLaw 0 = .ok (.aload_n 0, 1) := by decide +kernel
theorem dX4_readLaw_1 : decode cX4_readLaw 1 = .ok (.bipush 98, 2) := by decide +kernel
theorem dX4_readLaw_3 : decode cX4_readLaw 3 = .ok (.invokevirtual 43, 3) := by decide +kernel
theorem dX4_readLaw_6 : decode cX4_readLaw 6 = .ok (.ifCond .eq 13, 3) := by decide +kernel
theorem dX4_readLaw_9 : decode cX4_readLaw 9 = .ok (.aload_n 0, 1) := by decide +kernel
theorem dX4_readLaw_10 : decode cX4_readLaw 10 = .ok (.iconst 1, 1) := by decide +kernel
theorem dX4_readLaw_11 : decode cX4_readLaw 11 = .ok (.bipush 9, 2) := by decide +kernel
theorem dX4_readLaw_13 : decode cX4_readLaw 13 = .ok (.invokevirtual 47, 3) := by decide +kernel
theorem dX4_readLaw_16 : decode cX4_readLaw 16 = .ok (.ifCond .ne 5, 3) := by decide +kernel
theorem dX4_readLaw_19 : decode cX4_readLaw 19 = .ok (.iconst 0, 1) := by decide +kernel
theorem dX4_readLaw_20 : decode cX4_readLaw 20 = .ok (.ireturn, 1) := by decide +kernel
theorem dX4_readLaw_21 : decode cX4_readLaw 21 = .ok (.aload_n 1, 1) := by decide +kernel
theorem dX4_readLaw_22 : decode cX4_readLaw 22 = .ok (.aload_n 0, 1) := by decide +kernel
theorem dX4_readLaw_23 : decode cX4_readLaw 23 = .ok (.getfield 22, 3) := by decide +kernel
theorem dX4_readLaw_26 : decode cX4_readLaw 26 = .ok (.putfield 51, 3) := by decide +kernel
theorem dX4_readLaw_29 : decode cX4_readLaw 29 = .ok (.aload_n 0, 1) := by decide +kernel
theorem dX4_readLaw_30 : decode cX4_readLaw 30 = .ok (.bipush 59, 2) := by decide +kernel
theorem dX4_readLaw_32 : decode cX4_readLaw 32 = .ok (.invokevirtual 43, 3) := by decide +kernel
theorem dX4_readLaw_35 : decode cX4_readLaw 35 = .ok (.ireturn, 1) := by decide +kernel
theorem dX4_readMarbles_0 : decode cX4_readMarbles 0 = .ok (.iconst 0, 1) := by decide +kernel
theorem dX4_readMarbles_1 : decode cX4_readMarbles 1 = .ok (.istore_n 2, 1) := by decide +kernel
theorem dX4_readMarbles_2 : decode cX4_readMarbles 2 = .ok (.iload_n 2, 1) := by decide +kernel
theorem dX4_readMarbles_3 : decode cX4_readMarbles 3 = .ok (.bipush 6, 2) := by decide +kernel
theorem dX4_readMarbles_5 : decode cX4_readMarbles 5 = .ok (.if_icmp .gt 52, 3) := by decide +kernel
theorem dX4_readMarbles_8 : decode cX4_readMarbles 8 = .ok (.iload_n 2, 1) := by decide +kernel
theorem dX4_readMarbles_9 : decode cX4_readMarbles 9 = .ok (.ifCond .eq 12, 3) := by decide +kernel
theorem dX4_readMarbles_12 : decode cX4_readMarbles 12 = .ok (.aload_n 0, 1) := by decide +kernel
theorem dX4_readMarbles_13 : decode cX4_readMarbles 13 = .ok (.invokevirtual 54, 3) := by decide +kernel
theorem dX4_readMarbles_16 : decode cX4_readMarbles 16 = .ok (.bipush 109, 2) := by decide +kernel
theorem dX4_readMarbles_18 : decode cX4_readMarbles 18 = .ok (.if_icmp .ne 39, 3) := by decide +kernel
theorem dX4_readMarbles_21 : decode cX4_readMarbles 21 = .ok (.iload_n 2, 1) := by decide +kernel
theorem dX4_readMarbles_22 : decode cX4_readMarbles 22 = .ok (.bipush 6, 2) := by decide +kernel
theorem dX4_readMarbles_24 : decode cX4_readMarbles 24 = .ok (.if_icmp .ne 9, 3) := by decide +kernel
theorem dX4_readMarbles_27 : decode cX4_readMarbles 27 = .ok (.aload_n 0, 1) := by decide +kernel
theorem dX4_readMarbles_28 : decode cX4_readMarbles 28 = .ok (.iconst 3, 1) := by decide +kernel
theorem dX4_readMarbles_29 : decode cX4_readMarbles 29 = .ok (.invokevirtual 58, 3) := by decide +kernel
theorem dX4_readMarbles_32 : decode cX4_readMarbles 32 = .ok (.ireturn, 1) := by decide +kernel
theorem dX4_readMarbles_33 : decode cX4_readMarbles 33 = .ok (.aload_n 0, 1) := by decide +kernel
theorem dX4_readMarbles_34 : decode cX4_readMarbles 34 = .ok (.aload_n 1, 1) := by decide +kernel
theorem dX4_readMarbles_35 : decode cX4_readMarbles 35 = .ok (.iload_n 2, 1) := by decide +kernel
theorem dX4_readMarbles_36 : decode cX4_readMarbles 36 = .ok (.invokevirtual 61, 3) := by decide +kernel
theorem dX4_readMarbles_39 : decode cX4_readMarbles 39 = .ok (.ifCond .ne 5, 3) := by decide +kernel
theorem dX4_readMarbles_42 : decode cX4_readMarbles 42 = .ok (.iconst 0, 1) := by decide +kernel
theorem dX4_readMarbles_43 : decode cX4_readMarbles 43 = .ok (.ireturn, 1) := by decide +kernel
theorem dX4_readMarbles_44 : decode cX4_readMarbles 44 = .ok (.aload_n 1, 1) := by decide +kernel
theorem dX4_readMarbles_45 : decode cX4_readMarbles 45 = .ok (.iload_n 2, 1) := by decide +kernel
theorem dX4_readMarbles_46 : decode cX4_readMarbles 46 = .ok (.iconst 1, 1) := by decide +kernel
theorem dX4_readMarbles_47 : decode cX4_readMarbles 47 = .ok (.iadd, 1) := by decide +kernel
theorem dX4_readMarbles_48 : decode cX4_readMarbles 48 = .ok (.putfield 65, 3) := by decide +kernel
theorem dX4_readMarbles_51 : decode cX4_readMarbles 51 = .ok (.iinc 2 1, 3) := by decide +kernel
theorem dX4_readMarbles_54 : decode cX4_readMarbles 54 = .ok (.goto (-52), 3) := by decide +kernel
theorem dX4_readMarbles_57 : decode cX4_readMarbles 57 = .ok (.iconst 1, 1) := by decide +kernel
theorem dX4_readMarbles_58 : decode cX4_readMarbles 58 = .ok (.ireturn, 1) := by decide +kernel
theorem dX4_readMarble_0 : decode cX4_readMarble 0 = .ok (.aload_n 0, 1) := by decide +kernel
theorem dX4_readMarble_1 : decode cX4_readMarble 1 = .ok (.bipush 109, 2) := by decide +kernel
theorem dX4_readMarble_3 : decode cX4_readMarble 3 = .ok (.invokevirtual 43, 3) := by decide +kernel
theorem dX4_readMarble_6 : decode cX4_readMarble 6 = .ok (.ifCond .eq 13, 3) := by decide +kernel
theorem dX4_readMarble_9 : decode cX4_readMarble 9 = .ok (.aload_n 0, 1) := by decide +kernel
theorem dX4_readMarble_10 : decode cX4_readMarble 10 = .ok (.iconst 1, 1) := by decide +kernel
theorem dX4_readMarble_11 : decode cX4_readMarble 11 = .ok (.bipush 9, 2) := by decide +kernel
theorem dX4_readMarble_13 : decode cX4_readMarble 13 = .ok (.invokevirtual 47, 3) := by decide +kernel
theorem dX4_readMarble_16 : decode cX4_readMarble 16 = .ok (.ifCond .ne 5, 3) := by decide +kernel
theorem dX4_readMarble_19 : decode cX4_readMarble 19 = .ok (.iconst 0, 1) := by decide +kernel
theorem dX4_readMarble_20 : decode cX4_readMarble 20 = .ok (.ireturn, 1) := by decide +kernel
theorem dX4_readMarble_21 : decode cX4_readMarble 21 = .ok (.aload_n 1, 1) := by decide +kernel
theorem dX4_readMarble_22 : decode cX4_readMarble 22 = .ok (.getfield 68, 3) := by decide +kernel
theorem dX4_readMarble_25 : decode cX4_readMarble 25 = .ok (.iload_n 2, 1) := by decide +kernel
theorem dX4_readMarble_26 : decode cX4_readMarble 26 = .ok (.aload_n 0, 1) := by decide +kernel
theorem dX4_readMarble_27 : decode cX4_readMarble 27 = .ok (.getfield 22, 3) := by decide +kernel
theorem dX4_readMarble_30 : decode cX4_readMarble 30 = .ok (.iastore, 1) := by decide +kernel
theorem dX4_readMarble_31 : decode cX4_readMarble 31 = .ok (.aload_n 0, 1) := by decide +kernel
theorem dX4_readMarble_32 : decode cX4_readMarble 32 = .ok (.bipush 44, 2) := by decide +kernel
theorem dX4_readMarble_34 : decode cX4_readMarble 34 = .ok (.invokevirtual 43, 3) := by decide +kernel
theorem dX4_readMarble_37 : decode cX4_readMarble 37 = .ok (.ifCond .eq 13, 3) := by decide +kernel
theorem dX4_readMarble_40 : decode cX4_readMarble 40 = .ok (.aload_n 0, 1) := by decide +kernel
theorem dX4_readMarble_41 : decode cX4_readMarble 41 = .ok (.iconst 0, 1) := by decide +kernel
theorem dX4_readMarble_42 : decode cX4_readMarble 42 = .ok (.bipush 20, 2) := by decide +kernel
theorem dX4_readMarble_44 : decode cX4_readMarble 44 = .ok (.invokevirtual 47, 3) := by decide +kernel
theorem dX4_readMarble_47 : decode cX4_readMarble 47 = .ok (.ifCond .ne 5, 3) := by decide +kernel
theorem dX4_readMarble_50 : decode cX4_readMarble 50 = .ok (.iconst 0, 1) := by decide +kernel
theorem dX4_readMarble_51 : decode cX4_readMarble 51 = .ok (.ireturn, 1) := by decide +kernel
theorem dX4_readMarble_52 : decode cX4_readMarble 52 = .ok (.aload_n 1, 1) := by decide +kernel
theorem dX4_readMarble_53 : decode cX4_readMarble 53 = .ok (.getfield 71, 3) := by decide +kernel
theorem dX4_readMarble_56 : decode cX4_readMarble 56 = .ok (.iload_n 2, 1) := by decide +kernel
theorem dX4_readMarble_57 : decode cX4_readMarble 57 = .ok (.aload_n 0, 1) := by decide +kernel
theorem dX4_readMarble_58 : decode cX4_readMarble 58 = .ok (.getfield 22, 3) := by decide +kernel
theorem dX4_readMarble_61 : decode cX4_readMarble 61 = .ok (.iastore, 1) := by decide +kernel
theorem dX4_readMarble_62 : decode cX4_readMarble 62 = .ok (.aload_n 0, 1) := by decide +kernel
theorem dX4_readMarble_63 : decode cX4_readMarble 63 = .ok (.bipush 59, 2) := by decide +kernel
theorem dX4_readMarble_65 : decode cX4_readMarble 65 = .ok (.invokevirtual 43, 3) := by decide +kernel
theorem dX4_readMarble_68 : decode cX4_readMarble 68 = .ok (.ireturn, 1) := by decide +kernel
theorem dX4_readPieces_0 : decode cX4_readPieces 0 = .ok (.iconst 0, 1) := by decide +kernel
theorem dX4_readPieces_1 : decode cX4_readPieces 1 = .ok (.istore_n 2, 1) := by decide +kernel
theorem dX4_readPieces_2 : decode cX4_readPieces 2 = .ok (.iload_n 2, 1) := by decide +kernel
theorem dX4_readPieces_3 : decode cX4_readPieces 3 = .ok (.bipush 8, 2) := by decide +kernel
theorem dX4_readPieces_5 : decode cX4_readPieces 5 = .ok (.if_icmp .gt 67, 3) := by decide +kernel
theorem dX4_readPieces_8 : decode cX4_readPieces 8 = .ok (.iload_n 2, 1) := by decide +kernel
theorem dX4_readPieces_9 : decode cX4_readPieces 9 = .ok (.ifCond .eq 11, 3) := by decide +kernel
theorem dX4_readPieces_12 : decode cX4_readPieces 12 = .ok (.aload_n 0, 1) := by decide +kernel
theorem dX4_readPieces_13 : decode cX4_readPieces 13 = .ok (.invokevirtual 54, 3) := by decide +kernel
theorem dX4_readPieces_16 : decode cX4_readPieces 16 = .ok (.iconst (-1), 1) := by decide +kernel
theorem dX4_readPieces_17 : decode cX4_readPieces 17 = .ok (.if_icmp .eq 55, 3) := by decide +kernel
theorem dX4_readPieces_20 : decode cX4_readPieces 20 = .ok (.aload_n 0, 1) := by decide +kernel
theorem dX4_readPieces_21 : decode cX4_readPieces 21 = .ok (.invokevirtual 54, 3) := by decide +kernel
theorem dX4_readPieces_24 : decode cX4_readPieces 24 = .ok (.invokestatic 74, 3) := by decide +kernel
theorem dX4_readPieces_27 : decode cX4_readPieces 27 = .ok (.ifCond .ne 9, 3) := by decide +kernel
theorem dX4_readPieces_30 : decode cX4_readPieces 30 = .ok (.aload_n 0, 1) := by decide +kernel
theorem dX4_readPieces_31 : decode cX4_readPieces 31 = .ok (.iconst 1, 1) := by decide +kernel
theorem dX4_readPieces_32 : decode cX4_readPieces 32 = .ok (.invokevirtual 58, 3) := by decide +kernel
theorem dX4_readPieces_35 : decode cX4_readPieces 35 = .ok (.ireturn, 1) := by decide +kernel
theorem dX4_readPieces_36 : decode cX4_readPieces 36 = .ok (.iload_n 2, 1) := by decide +kernel
theorem dX4_readPieces_37 : decode cX4_readPieces 37 = .ok (.bipush 8, 2) := by decide +kernel
theorem dX4_readPieces_39 : decode cX4_readPieces 39 = .ok (.if_icmp .ne 9, 3) := by decide +kernel
theorem dX4_readPieces_42 : decode cX4_readPieces 42 = .ok (.aload_n 0, 1) := by decide +kernel
theorem dX4_readPieces_43 : decode cX4_readPieces 43 = .ok (.iconst 3, 1) := by decide +kernel
theorem dX4_readPieces_44 : decode cX4_readPieces 44 = .ok (.invokevirtual 58, 3) := by decide +kernel
theorem dX4_readPieces_47 : decode cX4_readPieces 47 = .ok (.ireturn, 1) := by decide +kernel
theorem dX4_readPieces_48 : decode cX4_readPieces 48 = .ok (.aload_n 0, 1) := by decide +kernel
theorem dX4_readPieces_49 : decode cX4_readPieces 49 = .ok (.aload_n 1, 1) := by decide +kernel
theorem dX4_readPieces_50 : decode cX4_readPieces 50 = .ok (.iload_n 2, 1) := by decide +kernel
theorem dX4_readPieces_51 : decode cX4_readPieces 51 = .ok (.invokevirtual 78, 3) := by decide +kernel
theorem dX4_readPieces_54 : decode cX4_readPieces 54 = .ok (.ifCond .ne 5, 3) := by decide +kernel
theorem dX4_readPieces_57 : decode cX4_readPieces 57 = .ok (.iconst 0, 1) := by decide +kernel
theorem dX4_readPieces_58 : decode cX4_readPieces 58 = .ok (.ireturn, 1) := by decide +kernel
theorem dX4_readPieces_59 : decode cX4_readPieces 59 = .ok (.aload_n 1, 1) := by decide +kernel
theorem dX4_readPieces_60 : decode cX4_readPieces 60 = .ok (.iload_n 2, 1) := by decide +kernel
theorem dX4_readPieces_61 : decode cX4_readPieces 61 = .ok (.iconst 1, 1) := by decide +kernel
theorem dX4_readPieces_62 : decode cX4_readPieces 62 = .ok (.iadd, 1) := by decide +kernel
theorem dX4_readPieces_63 : decode cX4_readPieces 63 = .ok (.putfield 81, 3) := by decide +kernel
theorem dX4_readPieces_66 : decode cX4_readPieces 66 = .ok (.iinc 2 1, 3) := by decide +kernel
theorem dX4_readPieces_69 : decode cX4_readPieces 69 = .ok (.goto (-67), 3) := by decide +kernel
theorem dX4_readPieces_72 : decode cX4_readPieces 72 = .ok (.iconst 1, 1) := by decide +kernel
theorem dX4_readPieces_73 : decode cX4_readPieces 73 = .ok (.ireturn, 1) := by decide +kernel
theorem dX4_readPiece_0 : decode cX4_readPiece 0 = .ok (.aload_n 1, 1) := by decide +kernel
theorem dX4_readPiece_1 : decode cX4_readPiece 1 = .ok (.getfield 84, 3) := by decide +kernel
theorem dX4_readPiece_4 : decode cX4_readPiece 4 = .ok (.iload_n 2, 1) := by decide +kernel
theorem dX4_readPiece_5 : decode cX4_readPiece 5 = .ok (.aload_n 0, 1) := by decide +kernel
theorem dX4_readPiece_6 : decode cX4_readPiece 6 = .ok (.invokevirtual 54, 3) := by decide +kernel
theorem dX4_readPiece_9 : decode cX4_readPiece 9 = .ok (.invokestatic 74, 3) := by decide +kernel
theorem dX4_readPiece_12 : decode cX4_readPiece 12 = .ok (.iastore, 1) := by decide +kernel
theorem dX4_readPiece_13 : decode cX4_readPiece 13 = .ok (.aload_n 0, 1) := by decide +kernel
theorem dX4_readPiece_14 : decode cX4_readPiece 14 = .ok (.dup, 1) := by decide +kernel
theorem dX4_readPiece_15 : decode cX4_readPiece 15 = .ok (.getfield 19, 3) := by decide +kernel
theorem dX4_readPiece_18 : decode cX4_readPiece 18 = .ok (.iconst 1, 1) := by decide +kernel
theorem dX4_readPiece_19 : decode cX4_readPiece 19 = .ok (.iadd, 1) := by decide +kernel
theorem dX4_readPiece_20 : decode cX4_readPiece 20 = .ok (.putfield 19, 3) := by decide +kernel
theorem dX4_readPiece_23 : decode cX4_readPiece 23 = .ok (.aload_n 0, 1) := by decide +kernel
theorem dX4_readPiece_24 : decode cX4_readPiece 24 = .ok (.iconst 0, 1) := by decide +kernel
theorem dX4_readPiece_25 : decode cX4_readPiece 25 = .ok (.iconst 1, 1) := by decide +kernel
theorem dX4_readPiece_26 : decode cX4_readPiece 26 = .ok (.invokevirtual 47, 3) := by decide +kernel
theorem dX4_readPiece_29 : decode cX4_readPiece 29 = .ok (.ifCond .ne 5, 3) := by decide +kernel
theorem dX4_readPiece_32 : decode cX4_readPiece 32 = .ok (.iconst 0, 1) := by decide +kernel
theorem dX4_readPiece_33 : decode cX4_readPiece 33 = .ok (.ireturn, 1) := by decide +kernel
theorem dX4_readPiece_34 : decode cX4_readPiece 34 = .ok (.aload_n 1, 1) := by decide +kernel
theorem dX4_readPiece_35 : decode cX4_readPiece 35 = .ok (.getfield 87, 3) := by decide +kernel
theorem dX4_readPiece_38 : decode cX4_readPiece 38 = .ok (.iload_n 2, 1) := by decide +kernel
theorem dX4_readPiece_39 : decode cX4_readPiece 39 = .ok (.aload_n 0, 1) := by decide +kernel
theorem dX4_readPiece_40 : decode cX4_readPiece 40 = .ok (.getfield 22, 3) := by decide +kernel
theorem dX4_readPiece_43 : decode cX4_readPiece 43 = .ok (.iastore, 1) := by decide +kernel
theorem dX4_readPiece_44 : decode cX4_readPiece 44 = .ok (.aload_n 0, 1) := by decide +kernel
theorem dX4_readPiece_45 : decode cX4_readPiece 45 = .ok (.bipush 44, 2) := by decide +kernel
theorem dX4_readPiece_47 : decode cX4_readPiece 47 = .ok (.invokevirtual 43, 3) := by decide +kernel
theorem dX4_readPiece_50 : decode cX4_readPiece 50 = .ok (.ifCond .eq 15, 3) := by decide +kernel
theorem dX4_readPiece_53 : decode cX4_readPiece 53 = .ok (.aload_n 0, 1) := by decide +kernel
theorem dX4_readPiece_54 : decode cX4_readPiece 54 = .ok (.iload_n 2, 1) := by decide +kernel
theorem dX4_readPiece_55 : decode cX4_readPiece 55 = .ok (.iconst 1, 1) := by decide +kernel
theorem dX4_readPiece_56 : decode cX4_readPiece 56 = .ok (.iadd, 1) := by decide +kernel
theorem dX4_readPiece_57 : decode cX4_readPiece 57 = .ok (.bipush 9, 2) := by decide +kernel
theorem dX4_readPiece_59 : decode cX4_readPiece 59 = .ok (.invokevirtual 47, 3) := by decide +kernel
theorem dX4_readPiece_62 : decode cX4_readPiece 62 = .ok (.ifCond .ne 5, 3) := by decide +kernel
theorem dX4_readPiece_65 : decode cX4_readPiece 65 = .ok (.iconst 0, 1) := by decide +kernel
theorem dX4_readPiece_66 : decode cX4_readPiece 66 = .ok (.ireturn, 1) := by decide +kernel
theorem dX4_readPiece_67 : decode cX4_readPiece 67 = .ok (.aload_n 1, 1) := by decide +kernel
theorem dX4_readPiece_68 : decode cX4_readPiece 68 = .ok (.getfield 90, 3) := by decide +kernel
theorem dX4_readPiece_71 : decode cX4_readPiece 71 = .ok (.iload_n 2, 1) := by decide +kernel
theorem dX4_readPiece_72 : decode cX4_readPiece 72 = .ok (.aload_n 0, 1) := by decide +kernel
theorem dX4_readPiece_73 : decode cX4_readPiece 73 = .ok (.getfield 22, 3) := by decide +kernel
theorem dX4_readPiece_76 : decode cX4_readPiece 76 = .ok (.iastore, 1) := by decide +kernel
theorem dX4_readPiece_77 : decode cX4_readPiece 77 = .ok (.aload_n 0, 1) := by decide +kernel
theorem dX4_readPiece_78 : decode cX4_readPiece 78 = .ok (.bipush 44, 2) := by decide +kernel
theorem dX4_readPiece_80 : decode cX4_readPiece 80 = .ok (.invokevirtual 43, 3) := by decide +kernel
theorem dX4_readPiece_83 : decode cX4_readPiece 83 = .ok (.ifCond .eq 15, 3) := by decide +kernel
theorem dX4_readPiece_86 : decode cX4_readPiece 86 = .ok (.aload_n 0, 1) := by decide +kernel
theorem dX4_readPiece_87 : decode cX4_readPiece 87 = .ok (.iload_n 2, 1) := by decide +kernel
theorem dX4_readPiece_88 : decode cX4_readPiece 88 = .ok (.iconst 1, 1) := by decide +kernel
theorem dX4_readPiece_89 : decode cX4_readPiece 89 = .ok (.iadd, 1) := by decide +kernel
theorem dX4_readPiece_90 : decode cX4_readPiece 90 = .ok (.bipush 9, 2) := by decide +kernel
theorem dX4_readPiece_92 : decode cX4_readPiece 92 = .ok (.invokevirtual 47, 3) := by decide +kernel
theorem dX4_readPiece_95 : decode cX4_readPiece 95 = .ok (.ifCond .ne 5, 3) := by decide +kernel
theorem dX4_readPiece_98 : decode cX4_readPiece 98 = .ok (.iconst 0, 1) := by decide +kernel
theorem dX4_readPiece_99 : decode cX4_readPiece 99 = .ok (.ireturn, 1) := by decide +kernel
theorem dX4_readPiece_100 : decode cX4_readPiece 100 = .ok (.aload_n 1, 1) := by decide +kernel
theorem dX4_readPiece_101 : decode cX4_readPiece 101 = .ok (.getfield 93, 3) := by decide +kernel
theorem dX4_readPiece_104 : decode cX4_readPiece 104 = .ok (.iload_n 2, 1) := by decide +kernel
theorem dX4_readPiece_105 : decode cX4_readPiece 105 = .ok (.aload_n 0, 1) := by decide +kernel
theorem dX4_readPiece_106 : decode cX4_readPiece 106 = .ok (.getfield 22, 3) := by decide +kernel
theorem dX4_readPiece_109 : decode cX4_readPiece 109 = .ok (.iastore, 1) := by decide +kernel
theorem dX4_readPiece_110 : decode cX4_readPiece 110 = .ok (.aload_n 0, 1) := by decide +kernel
theorem dX4_readPiece_111 : decode cX4_readPiece 111 = .ok (.bipush 59, 2) := by decide +kernel
theorem dX4_readPiece_113 : decode cX4_readPiece 113 = .ok (.invokevirtual 43, 3) := by decide +kernel
theorem dX4_readPiece_116 : decode cX4_readPiece 116 = .ok (.ireturn, 1) := by decide +kernel
theorem dX4_sortOf_0 : decode cX4_sortOf 0 = .ok (.iload_n 0, 1) := by decide +kernel
theorem dX4_sortOf_1 : decode cX4_sortOf 1 = .ok (.lookupswitch 61 #[(103, 51), (104, 55), (108, 53), (115, 57), (119, 59)], 51) := by decide +kernel
theorem dX4_sortOf_52 : decode cX4_sortOf 52 = .ok (.iconst 1, 1) := by decide +kernel
theorem dX4_sortOf_53 : decode cX4_sortOf 53 = .ok (.ireturn, 1) := by decide +kernel
theorem dX4_sortOf_54 : decode cX4_sortOf 54 = .ok (.iconst 2, 1) := by decide +kernel
theorem dX4_sortOf_55 : decode cX4_sortOf 55 = .ok (.ireturn, 1) := by decide +kernel
theorem dX4_sortOf_56 : decode cX4_sortOf 56 = .ok (.iconst 3, 1) := by decide +kernel
theorem dX4_sortOf_57 : decode cX4_sortOf 57 = .ok (.ireturn, 1) := by decide +kernel
theorem dX4_sortOf_58 : decode cX4_sortOf 58 = .ok (.iconst 4, 1) := by decide +kernel
theorem dX4_sortOf_59 : decode cX4_sortOf 59 = .ok (.ireturn, 1) := by decide +kernel
theorem dX4_sortOf_60 : decode cX4_sortOf 60 = .ok (.iconst 5, 1) := by decide +kernel
theorem dX4_sortOf_61 : decode cX4_sortOf 61 = .ok (.ireturn, 1) := by decide +kernel
theorem dX4_sortOf_62 : decode cX4_sortOf 62 = .ok (.iconst 0, 1) := by decide +kernel
theorem dX4_sortOf_63 : decode cX4_sortOf 63 = .ok (.ireturn, 1) := by decide +kernel
theorem dX4_byteAt_0 : decode cX4_byteAt 0 = .ok (.iload_n 1, 1) := by decide +kernel
theorem dX4_byteAt_1 : decode cX4_byteAt 1 = .ok (.aload_n 0, 1) := by decide +kernel
theorem dX4_byteAt_2 : decode cX4_byteAt 2 = .ok (.getfield 15, 3) := by decide +kernel
theorem dX4_byteAt_5 : decode cX4_byteAt 5 = .ok (.if_icmp .ge 18, 3) := by decide +kernel
theorem dX4_byteAt_8 : decode cX4_byteAt 8 = .ok (.iload_n 1, 1) := by decide +kernel
theorem dX4_byteAt_9 : decode cX4_byteAt 9 = .ok (.bipush 110, 2) := by decide +kernel
theorem dX4_byteAt_11 : decode cX4_byteAt 11 = .ok (.if_icmp .ge 12, 3) := by decide +kernel
theorem dX4_byteAt_14 : decode cX4_byteAt 14 = .ok (.aload_n 0, 1) := by decide +kernel
theorem dX4_byteAt_15 : decode cX4_byteAt 15 = .ok (.getfield 11, 3) := by decide +kernel
theorem dX4_byteAt_18 : decode cX4_byteAt 18 = .ok (.iload_n 1, 1) := by decide +kernel
theorem dX4_byteAt_19 : decode cX4_byteAt 19 = .ok (.iaload, 1) := by decide +kernel
theorem dX4_byteAt_20 : decode cX4_byteAt 20 = .ok (.goto 4, 3) := by decide +kernel
theorem dX4_byteAt_23 : decode cX4_byteAt 23 = .ok (.iconst (-1), 1) := by decide +kernel
theorem dX4_byteAt_24 : decode cX4_byteAt 24 = .ok (.ireturn, 1) := by decide +kernel
theorem dX4_next_0 : decode cX4_next 0 = .ok (.aload_n 0, 1) := by decide +kernel
theorem dX4_next_1 : decode cX4_next 1 = .ok (.aload_n 0, 1) := by decide +kernel
theorem dX4_next_2 : decode cX4_next 2 = .ok (.getfield 19, 3) := by decide +kernel
theorem dX4_next_5 : decode cX4_next 5 = .ok (.invokevirtual 96, 3) := by decide +kernel
theorem dX4_next_8 : decode cX4_next 8 = .ok (.ireturn, 1) := by decide +kernel
theorem dX4_isFigureAt_0 : decode cX4_isFigureAt 0 = .ok (.aload_n 0, 1) := by decide +kernel
theorem dX4_isFigureAt_1 : decode cX4_isFigureAt 1 = .ok (.iload_n 1, 1) := by decide +kernel
theorem dX4_isFigureAt_2 : decode cX4_isFigureAt 2 = .ok (.invokevirtual 96, 3) := by decide +kernel
theorem dX4_isFigureAt_5 : decode cX4_isFigureAt 5 = .ok (.istore_n 2, 1) := by decide +kernel
theorem dX4_isFigureAt_6 : decode cX4_isFigureAt 6 = .ok (.iload_n 2, 1) := by decide +kernel
theorem dX4_isFigureAt_7 : decode cX4_isFigureAt 7 = .ok (.bipush 48, 2) := by decide +kernel
theorem dX4_isFigureAt_9 : decode cX4_isFigureAt 9 = .ok (.if_icmp .lt 13, 3) := by decide +kernel
theorem dX4_isFigureAt_12 : decode cX4_isFigureAt 12 = .ok (.iload_n 2, 1) := by decide +kernel
theorem dX4_isFigureAt_13 : decode cX4_isFigureAt 13 = .ok (.bipush 57, 2) := by decide +kernel
theorem dX4_isFigureAt_15 : decode cX4_isFigureAt 15 = .ok (.if_icmp .gt 7, 3) := by decide +kernel
theorem dX4_isFigureAt_18 : decode cX4_isFigureAt 18 = .ok (.iconst 1, 1) := by decide +kernel
theorem dX4_isFigureAt_19 : decode cX4_isFigureAt 19 = .ok (.goto 4, 3) := by decide +kernel
theorem dX4_isFigureAt_22 : decode cX4_isFigureAt 22 = .ok (.iconst 0, 1) := by decide +kernel
theorem dX4_isFigureAt_23 : decode cX4_isFigureAt 23 = .ok (.ireturn, 1) := by decide +kernel
theorem dX4_fails_0 : decode cX4_fails 0 = .ok (.aload_n 0, 1) := by decide +kernel
theorem dX4_fails_1 : decode cX4_fails 1 = .ok (.iload_n 1, 1) := by decide +kernel
theorem dX4_fails_2 : decode cX4_fails 2 = .ok (.putfield 25, 3) := by decide +kernel
theorem dX4_fails_5 : decode cX4_fails 5 = .ok (.iconst 0, 1) := by decide +kernel
theorem dX4_fails_6 : decode cX4_fails 6 = .ok (.ireturn, 1) := by decide +kernel
theorem dX4_take_0 : decode cX4_take 0 = .ok (.aload_n 0, 1) := by decide +kernel
theorem dX4_take_1 : decode cX4_take 1 = .ok (.invokevirtual 54, 3) := by decide +kernel
theorem dX4_take_4 : decode cX4_take 4 = .ok (.iload_n 1, 1) := by decide +kernel
theorem dX4_take_5 : decode cX4_take 5 = .ok (.if_icmp .eq 9, 3) := by decide +kernel
theorem dX4_take_8 : decode cX4_take 8 = .ok (.aload_n 0, 1) := by decide +kernel
theorem dX4_take_9 : decode cX4_take 9 = .ok (.iconst 1, 1) := by decide +kernel
theorem dX4_take_10 : decode cX4_take 10 = .ok (.invokevirtual 58, 3) := by decide +kernel
theorem dX4_take_13 : decode cX4_take 13 = .ok (.ireturn, 1) := by decide +kernel
theorem dX4_take_14 : decode cX4_take 14 = .ok (.aload_n 0, 1) := by decide +kernel
theorem dX4_take_15 : decode cX4_take 15 = .ok (.dup, 1) := by decide +kernel
theorem dX4_take_16 : decode cX4_take 16 = .ok (.getfield 19, 3) := by decide +kernel
theorem dX4_take_19 : decode cX4_take 19 = .ok (.iconst 1, 1) := by decide +kernel
theorem dX4_take_20 : decode cX4_take 20 = .ok (.iadd, 1) := by decide +kernel
theorem dX4_take_21 : decode cX4_take 21 = .ok (.putfield 19, 3) := by decide +kernel
theorem dX4_take_24 : decode cX4_take 24 = .ok (.iconst 1, 1) := by decide +kernel
theorem dX4_take_25 : decode cX4_take 25 = .ok (.ireturn, 1) := by decide +kernel
theorem dX4_takeNumber_0 : decode cX4_takeNumber 0 = .ok (.aload_n 0, 1) := by decide +kernel
theorem dX4_takeNumber_1 : decode cX4_takeNumber 1 = .ok (.aload_n 0, 1) := by decide +kernel
theorem dX4_takeNumber_2 : decode cX4_takeNumber 2 = .ok (.getfield 19, 3) := by decide +kernel
theorem dX4_takeNumber_5 : decode cX4_takeNumber 5 = .ok (.invokevirtual 99, 3) := by decide +kernel
theorem dX4_takeNumber_8 : decode cX4_takeNumber 8 = .ok (.ifCond .eq 29, 3) := by decide +kernel
theorem dX4_takeNumber_11 : decode cX4_takeNumber 11 = .ok (.aload_n 0, 1) := by decide +kernel
theorem dX4_takeNumber_12 : decode cX4_takeNumber 12 = .ok (.aload_n 0, 1) := by decide +kernel
theorem dX4_takeNumber_13 : decode cX4_takeNumber 13 = .ok (.getfield 19, 3) := by decide +kernel
theorem dX4_takeNumber_16 : decode cX4_takeNumber 16 = .ok (.iconst 1, 1) := by decide +kernel
theorem dX4_takeNumber_17 : decode cX4_takeNumber 17 = .ok (.iadd, 1) := by decide +kernel
theorem dX4_takeNumber_18 : decode cX4_takeNumber 18 = .ok (.invokevirtual 99, 3) := by decide +kernel
theorem dX4_takeNumber_21 : decode cX4_takeNumber 21 = .ok (.ifCond .eq 22, 3) := by decide +kernel
theorem dX4_takeNumber_24 : decode cX4_takeNumber 24 = .ok (.aload_n 0, 1) := by decide +kernel
theorem dX4_takeNumber_25 : decode cX4_takeNumber 25 = .ok (.aload_n 0, 1) := by decide +kernel
theorem dX4_takeNumber_26 : decode cX4_takeNumber 26 = .ok (.getfield 19, 3) := by decide +kernel
theorem dX4_takeNumber_29 : decode cX4_takeNumber 29 = .ok (.iconst 2, 1) := by decide +kernel
theorem dX4_takeNumber_30 : decode cX4_takeNumber 30 = .ok (.iadd, 1) := by decide +kernel
theorem dX4_takeNumber_31 : decode cX4_takeNumber 31 = .ok (.invokevirtual 99, 3) := by decide +kernel
theorem dX4_takeNumber_34 : decode cX4_takeNumber 34 = .ok (.ifCond .eq 9, 3) := by decide +kernel
theorem dX4_takeNumber_37 : decode cX4_takeNumber 37 = .ok (.aload_n 0, 1) := by decide +kernel
theorem dX4_takeNumber_38 : decode cX4_takeNumber 38 = .ok (.iconst 1, 1) := by decide +kernel
theorem dX4_takeNumber_39 : decode cX4_takeNumber 39 = .ok (.invokevirtual 58, 3) := by decide +kernel
theorem dX4_takeNumber_42 : decode cX4_takeNumber 42 = .ok (.ireturn, 1) := by decide +kernel
theorem dX4_takeNumber_43 : decode cX4_takeNumber 43 = .ok (.aload_n 0, 1) := by decide +kernel
theorem dX4_takeNumber_44 : decode cX4_takeNumber 44 = .ok (.aload_n 0, 1) := by decide +kernel
theorem dX4_takeNumber_45 : decode cX4_takeNumber 45 = .ok (.getfield 19, 3) := by decide +kernel
theorem dX4_takeNumber_48 : decode cX4_takeNumber 48 = .ok (.iconst 1, 1) := by decide +kernel
theorem dX4_takeNumber_49 : decode cX4_takeNumber 49 = .ok (.iadd, 1) := by decide +kernel
theorem dX4_takeNumber_50 : decode cX4_takeNumber 50 = .ok (.invokevirtual 99, 3) := by decide +kernel
theorem dX4_takeNumber_53 : decode cX4_takeNumber 53 = .ok (.ifCond .ne 7, 3) := by decide +kernel
theorem dX4_takeNumber_56 : decode cX4_takeNumber 56 = .ok (.iconst 1, 1) := by decide +kernel
theorem dX4_takeNumber_57 : decode cX4_takeNumber 57 = .ok (.goto 4, 3) := by decide +kernel
theorem dX4_takeNumber_60 : decode cX4_takeNumber 60 = .ok (.iconst 0, 1) := by decide +kernel
theorem dX4_takeNumber_61 : decode cX4_takeNumber 61 = .ok (.istore_n 3, 1) := by decide +kernel
theorem dX4_takeNumber_62 : decode cX4_takeNumber 62 = .ok (.aload_n 0, 1) := by decide +kernel
theorem dX4_takeNumber_63 : decode cX4_takeNumber 63 = .ok (.aload_n 0, 1) := by decide +kernel
theorem dX4_takeNumber_64 : decode cX4_takeNumber 64 = .ok (.getfield 19, 3) := by decide +kernel
theorem dX4_takeNumber_67 : decode cX4_takeNumber 67 = .ok (.invokevirtual 96, 3) := by decide +kernel
theorem dX4_takeNumber_70 : decode cX4_takeNumber 70 = .ok (.bipush 48, 2) := by decide +kernel
theorem dX4_takeNumber_72 : decode cX4_takeNumber 72 = .ok (.isub, 1) := by decide +kernel
theorem dX4_takeNumber_73 : decode cX4_takeNumber 73 = .ok (.istore 4, 2) := by decide +kernel
theorem dX4_takeNumber_75 : decode cX4_takeNumber 75 = .ok (.aload_n 0, 1) := by decide +kernel
theorem dX4_takeNumber_76 : decode cX4_takeNumber 76 = .ok (.iload_n 3, 1) := by decide +kernel
theorem dX4_takeNumber_77 : decode cX4_takeNumber 77 = .ok (.ifCond .eq 8, 3) := by decide +kernel
theorem dX4_takeNumber_80 : decode cX4_takeNumber 80 = .ok (.iload 4, 2) := by decide +kernel
theorem dX4_takeNumber_82 : decode cX4_takeNumber 82 = .ok (.goto 22, 3) := by decide +kernel
theorem dX4_takeNumber_85 : decode cX4_takeNumber 85 = .ok (.iload 4, 2) := by decide +kernel
theorem dX4_takeNumber_87 : decode cX4_takeNumber 87 = .ok (.bipush 10, 2) := by decide +kernel
theorem dX4_takeNumber_89 : decode cX4_takeNumber 89 = .ok (.imul, 1) := by decide +kernel
theorem dX4_takeNumber_90 : decode cX4_takeNumber 90 = .ok (.aload_n 0, 1) := by decide +kernel
theorem dX4_takeNumber_91 : decode cX4_takeNumber 91 = .ok (.aload_n 0, 1) := by decide +kernel
theorem dX4_takeNumber_92 : decode cX4_takeNumber 92 = .ok (.getfield 19, 3) := by decide +kernel
theorem dX4_takeNumber_95 : decode cX4_takeNumber 95 = .ok (.iconst 1, 1) := by decide +kernel
theorem dX4_takeNumber_96 : decode cX4_takeNumber 96 = .ok (.iadd, 1) := by decide +kernel
theorem dX4_takeNumber_97 : decode cX4_takeNumber 97 = .ok (.invokevirtual 96, 3) := by decide +kernel
theorem dX4_takeNumber_100 : decode cX4_takeNumber 100 = .ok (.iadd, 1) := by decide +kernel
theorem dX4_takeNumber_101 : decode cX4_takeNumber 101 = .ok (.bipush 48, 2) := by decide +kernel
theorem dX4_takeNumber_103 : decode cX4_takeNumber 103 = .ok (.isub, 1) := by decide +kernel
theorem dX4_takeNumber_104 : decode cX4_takeNumber 104 = .ok (.putfield 22, 3) := by decide +kernel
theorem dX4_takeNumber_107 : decode cX4_takeNumber 107 = .ok (.aload_n 0, 1) := by decide +kernel
theorem dX4_takeNumber_108 : decode cX4_takeNumber 108 = .ok (.getfield 22, 3) := by decide +kernel
theorem dX4_takeNumber_111 : decode cX4_takeNumber 111 = .ok (.iload_n 1, 1) := by decide +kernel
theorem dX4_takeNumber_112 : decode cX4_takeNumber 112 = .ok (.if_icmp .lt 11, 3) := by decide +kernel
theorem dX4_takeNumber_115 : decode cX4_takeNumber 115 = .ok (.aload_n 0, 1) := by decide +kernel
theorem dX4_takeNumber_116 : decode cX4_takeNumber 116 = .ok (.getfield 22, 3) := by decide +kernel
theorem dX4_takeNumber_119 : decode cX4_takeNumber 119 = .ok (.iload_n 2, 1) := by decide +kernel
theorem dX4_takeNumber_120 : decode cX4_takeNumber 120 = .ok (.if_icmp .le 9, 3) := by decide +kernel
theorem dX4_takeNumber_123 : decode cX4_takeNumber 123 = .ok (.aload_n 0, 1) := by decide +kernel
theorem dX4_takeNumber_124 : decode cX4_takeNumber 124 = .ok (.iconst 2, 1) := by decide +kernel
theorem dX4_takeNumber_125 : decode cX4_takeNumber 125 = .ok (.invokevirtual 58, 3) := by decide +kernel
theorem dX4_takeNumber_128 : decode cX4_takeNumber 128 = .ok (.ireturn, 1) := by decide +kernel
theorem dX4_takeNumber_129 : decode cX4_takeNumber 129 = .ok (.aload_n 0, 1) := by decide +kernel
theorem dX4_takeNumber_130 : decode cX4_takeNumber 130 = .ok (.dup, 1) := by decide +kernel
theorem dX4_takeNumber_131 : decode cX4_takeNumber 131 = .ok (.getfield 19, 3) := by decide +kernel
theorem dX4_takeNumber_134 : decode cX4_takeNumber 134 = .ok (.iload_n 3, 1) := by decide +kernel
theorem dX4_takeNumber_135 : decode cX4_takeNumber 135 = .ok (.ifCond .eq 7, 3) := by decide +kernel
theorem dX4_takeNumber_138 : decode cX4_takeNumber 138 = .ok (.iconst 1, 1) := by decide +kernel
theorem dX4_takeNumber_139 : decode cX4_takeNumber 139 = .ok (.goto 4, 3) := by decide +kernel
theorem dX4_takeNumber_142 : decode cX4_takeNumber 142 = .ok (.iconst 2, 1) := by decide +kernel
theorem dX4_takeNumber_143 : decode cX4_takeNumber 143 = .ok (.iadd, 1) := by decide +kernel
theorem dX4_takeNumber_144 : decode cX4_takeNumber 144 = .ok (.putfield 19, 3) := by decide +kernel
theorem dX4_takeNumber_147 : decode cX4_takeNumber 147 = .ok (.iconst 1, 1) := by decide +kernel
theorem dX4_takeNumber_148 : decode cX4_takeNumber 148 = .ok (.ireturn, 1) := by decide +kernel
theorem dX5_init_0 : decode cX5_init 0 = .ok (.aload_n 0, 1) := by decide +kernel
theorem dX5_init_1 : decode cX5_init 1 = .ok (.invokespecial 3, 3) := by decide +kernel
theorem dX5_init_4 : decode cX5_init 4 = .ok (.aload_n 0, 1) := by decide +kernel
theorem dX5_init_5 : decode cX5_init 5 = .ok (.iconst 0, 1) := by decide +kernel
theorem dX5_init_6 : decode cX5_init 6 = .ok (.putfield 9, 3) := by decide +kernel
theorem dX5_init_9 : decode cX5_init 9 = .ok (.aload_n 0, 1) := by decide +kernel
theorem dX5_init_10 : decode cX5_init 10 = .ok (.iconst 0, 1) := by decide +kernel
theorem dX5_init_11 : decode cX5_init 11 = .ok (.putfield 15, 3) := by decide +kernel
theorem dX5_init_14 : decode cX5_init 14 = .ok (.aload_n 0, 1) := by decide +kernel
theorem dX5_init_15 : decode cX5_init 15 = .ok (.iconst 0, 1) := by decide +kernel
theorem dX5_init_16 : decode cX5_init 16 = .ok (.putfield 18, 3) := by decide +kernel
theorem dX5_init_19 : decode cX5_init 19 = .ok (.aload_n 0, 1) := by decide +kernel
theorem dX5_init_20 : decode cX5_init 20 = .ok (.iconst 0, 1) := by decide +kernel
theorem dX5_init_21 : decode cX5_init 21 = .ok (.putfield 21, 3) := by decide +kernel
theorem dX5_init_24 : decode cX5_init 24 = .ok (.aload_n 0, 1) := by decide +kernel
theorem dX5_init_25 : decode cX5_init 25 = .ok (.iconst 0, 1) := by decide +kernel
theorem dX5_init_26 : decode cX5_init 26 = .ok (.putfield 24, 3) := by decide +kernel
theorem dX5_init_29 : decode cX5_init 29 = .ok (.aload_n 0, 1) := by decide +kernel
theorem dX5_init_30 : decode cX5_init 30 = .ok (.bipush 6, 2) := by decide +kernel
theorem dX5_init_32 : decode cX5_init 32 = .ok (.newarray .int, 2) := by decide +kernel
theorem dX5_init_34 : decode cX5_init 34 = .ok (.putfield 27, 3) := by decide +kernel
theorem dX5_init_37 : decode cX5_init 37 = .ok (.aload_n 0, 1) := by decide +kernel
theorem dX5_init_38 : decode cX5_init 38 = .ok (.bipush 6, 2) := by decide +kernel
theorem dX5_init_40 : decode cX5_init 40 = .ok (.newarray .int, 2) := by decide +kernel
theorem dX5_init_42 : decode cX5_init 42 = .ok (.putfield 31, 3) := by decide +kernel
theorem dX5_init_45 : decode cX5_init 45 = .ok (.aload_n 0, 1) := by decide +kernel
theorem dX5_init_46 : decode cX5_init 46 = .ok (.bipush 6, 2) := by decide +kernel
theorem dX5_init_48 : decode cX5_init 48 = .ok (.newarray .int, 2) := by decide +kernel
theorem dX5_init_50 : decode cX5_init 50 = .ok (.putfield 34, 3) := by decide +kernel
theorem dX5_init_53 : decode cX5_init 53 = .ok (.aload_n 0, 1) := by decide +kernel
theorem dX5_init_54 : decode cX5_init 54 = .ok (.bipush 8, 2) := by decide +kernel
theorem dX5_init_56 : decode cX5_init 56 = .ok (.newarray .int, 2) := by decide +kernel
theorem dX5_init_58 : decode cX5_init 58 = .ok (.putfield 37, 3) := by decide +kernel
theorem dX5_init_61 : decode cX5_init 61 = .ok (.aload_n 0, 1) := by decide +kernel
theorem dX5_init_62 : decode cX5_init 62 = .ok (.bipush 8, 2) := by decide +kernel
theorem dX5_init_64 : decode cX5_init 64 = .ok (.newarray .int, 2) := by decide +kernel
theorem dX5_init_66 : decode cX5_init 66 = .ok (.putfield 40, 3) := by decide +kernel
theorem dX5_init_69 : decode cX5_init 69 = .ok (.aload_n 0, 1) := by decide +kernel
theorem dX5_init_70 : decode cX5_init 70 = .ok (.bipush 8, 2) := by decide +kernel
theorem dX5_init_72 : decode cX5_init 72 = .ok (.newarray .int, 2) := by decide +kernel
theorem dX5_init_74 : decode cX5_init 74 = .ok (.putfield 43, 3) := by decide +kernel
theorem dX5_init_77 : decode cX5_init 77 = .ok (.aload_n 0, 1) := by decide +kernel
theorem dX5_init_78 : decode cX5_init 78 = .ok (.bipush 8, 2) := by decide +kernel
theorem dX5_init_80 : decode cX5_init 80 = .ok (.newarray .int, 2) := by decide +kernel
theorem dX5_init_82 : decode cX5_init 82 = .ok (.putfield 46, 3) := by decide +kernel
theorem dX5_init_85 : decode cX5_init 85 = .ok (.aload_n 0, 1) := by decide +kernel
theorem dX5_init_86 : decode cX5_init 86 = .ok (.bipush 8, 2) := by decide +kernel
theorem dX5_init_88 : decode cX5_init 88 = .ok (.newarray .int, 2) := by decide +kernel
theorem dX5_init_90 : decode cX5_init 90 = .ok (.putfield 49, 3) := by decide +kernel
theorem dX5_init_93 : decode cX5_init 93 = .ok (.aload_n 0, 1) := by decide +kernel
theorem dX5_init_94 : decode cX5_init 94 = .ok (.bipush 8, 2) := by decide +kernel
theorem dX5_init_96 : decode cX5_init 96 = .ok (.newarray .int, 2) := by decide +kernel
theorem dX5_init_98 : decode cX5_init 98 = .ok (.putfield 52, 3) := by decide +kernel
theorem dX5_init_101 : decode cX5_init 101 = .ok (.aload_n 0, 1) := by decide +kernel
theorem dX5_init_102 : decode cX5_init 102 = .ok (.bipush 8, 2) := by decide +kernel
theorem dX5_init_104 : decode cX5_init 104 = .ok (.newarray .int, 2) := by decide +kernel
theorem dX5_init_106 : decode cX5_init 106 = .ok (.putfield 55, 3) := by decide +kernel
theorem dX5_init_109 : decode cX5_init 109 = .ok (.return_, 1) := by decide +kernel
theorem dX5_clear_0 : decode cX5_clear 0 = .ok (.aload_n 0, 1) := by decide +kernel
theorem dX5_clear_1 : decode cX5_clear 1 = .ok (.iconst 0, 1) := by decide +kernel
theorem dX5_clear_2 : decode cX5_clear 2 = .ok (.putfield 9, 3) := by decide +kernel
theorem dX5_clear_5 : decode cX5_clear 5 = .ok (.aload_n 0, 1) := by decide +kernel
theorem dX5_clear_6 : decode cX5_clear 6 = .ok (.iconst 0, 1) := by decide +kernel
theorem dX5_clear_7 : decode cX5_clear 7 = .ok (.putfield 15, 3) := by decide +kernel
theorem dX5_clear_10 : decode cX5_clear 10 = .ok (.aload_n 0, 1) := by decide +kernel
theorem dX5_clear_11 : decode cX5_clear 11 = .ok (.iconst 0, 1) := by decide +kernel
theorem dX5_clear_12 : decode cX5_clear 12 = .ok (.putfield 18, 3) := by decide +kernel
theorem dX5_clear_15 : decode cX5_clear 15 = .ok (.aload_n 0, 1) := by decide +kernel
theorem dX5_clear_16 : decode cX5_clear 16 = .ok (.iconst 0, 1) := by decide +kernel
theorem dX5_clear_17 : decode cX5_clear 17 = .ok (.putfield 21, 3) := by decide +kernel
theorem dX5_clear_20 : decode cX5_clear 20 = .ok (.aload_n 0, 1) := by decide +kernel
theorem dX5_clear_21 : decode cX5_clear 21 = .ok (.iconst 0, 1) := by decide +kernel
theorem dX5_clear_22 : decode cX5_clear 22 = .ok (.putfield 24, 3) := by decide +kernel
theorem dX5_clear_25 : decode cX5_clear 25 = .ok (.aload_n 0, 1) := by decide +kernel
theorem dX5_clear_26 : decode cX5_clear 26 = .ok (.getfield 34, 3) := by decide +kernel
theorem dX5_clear_29 : decode cX5_clear 29 = .ok (.bipush 10, 2) := by decide +kernel
theorem dX5_clear_31 : decode cX5_clear 31 = .ok (.invokestatic 58, 3) := by decide +kernel
theorem dX5_clear_34 : decode cX5_clear 34 = .ok (.aload_n 0, 1) := by decide +kernel
theorem dX5_clear_35 : decode cX5_clear 35 = .ok (.getfield 49, 3) := by decide +kernel
theorem dX5_clear_38 : decode cX5_clear 38 = .ok (.ldc 64, 2) := by decide +kernel
theorem dX5_clear_40 : decode cX5_clear 40 = .ok (.invokestatic 58, 3) := by decide +kernel
theorem dX5_clear_43 : decode cX5_clear 43 = .ok (.aload_n 0, 1) := by decide +kernel
theorem dX5_clear_44 : decode cX5_clear 44 = .ok (.getfield 52, 3) := by decide +kernel
theorem dX5_clear_47 : decode cX5_clear 47 = .ok (.iconst 0, 1) := by decide +kernel
theorem dX5_clear_48 : decode cX5_clear 48 = .ok (.invokestatic 58, 3) := by decide +kernel
theorem dX5_clear_51 : decode cX5_clear 51 = .ok (.aload_n 0, 1) := by decide +kernel
theorem dX5_clear_52 : decode cX5_clear 52 = .ok (.getfield 55, 3) := by decide +kernel
theorem dX5_clear_55 : decode cX5_clear 55 = .ok (.iconst 0, 1) := by decide +kernel
theorem dX5_clear_56 : decode cX5_clear 56 = .ok (.invokestatic 58, 3) := by decide +kernel
theorem dX5_clear_59 : decode cX5_clear 59 = .ok (.return_, 1) := by decide +kernel
theorem dX5_becomeLike_0 : decode cX5_becomeLike 0 = .ok (.aload_n 0, 1) := by decide +kernel
theorem dX5_becomeLike_1 : decode cX5_becomeLike 1 = .ok (.aload_n 1, 1) := by decide +kernel
theorem dX5_becomeLike_2 : decode cX5_becomeLike 2 = .ok (.getfield 9, 3) := by decide +kernel
theorem dX5_becomeLike_5 : decode cX5_becomeLike 5 = .ok (.putfield 9, 3) := by decide +kernel
theorem dX5_becomeLike_8 : decode cX5_becomeLike 8 = .ok (.aload_n 0, 1) := by decide +kernel
theorem dX5_becomeLike_9 : decode cX5_becomeLike 9 = .ok (.aload_n 1, 1) := by decide +kernel
theorem dX5_becomeLike_10 : decode cX5_becomeLike 10 = .ok (.getfield 15, 3) := by decide +kernel
theorem dX5_becomeLike_13 : decode cX5_becomeLike 13 = .ok (.putfield 15, 3) := by decide +kernel
theorem dX5_becomeLike_16 : decode cX5_becomeLike 16 = .ok (.aload_n 0, 1) := by decide +kernel
theorem dX5_becomeLike_17 : decode cX5_becomeLike 17 = .ok (.aload_n 1, 1) := by decide +kernel
theorem dX5_becomeLike_18 : decode cX5_becomeLike 18 = .ok (.getfield 18, 3) := by decide +kernel
theorem dX5_becomeLike_21 : decode cX5_becomeLike 21 = .ok (.putfield 18, 3) := by decide +kernel
theorem dX5_becomeLike_24 : decode cX5_becomeLike 24 = .ok (.aload_n 0, 1) := by decide +kernel
theorem dX5_becomeLike_25 : decode cX5_becomeLike 25 = .ok (.aload_n 1, 1) := by decide +kernel
theorem dX5_becomeLike_26 : decode cX5_becomeLike 26 = .ok (.getfield 21, 3) := by decide +kernel
theorem dX5_becomeLike_29 : decode cX5_becomeLike 29 = .ok (.putfield 21, 3) := by decide +kernel
theorem dX5_becomeLike_32 : decode cX5_becomeLike 32 = .ok (.aload_n 0, 1) := by decide +kernel
theorem dX5_becomeLike_33 : decode cX5_becomeLike 33 = .ok (.aload_n 1, 1) := by decide +kernel
theorem dX5_becomeLike_34 : decode cX5_becomeLike 34 = .ok (.getfield 24, 3) := by decide +kernel
theorem dX5_becomeLike_37 : decode cX5_becomeLike 37 = .ok (.putfield 24, 3) := by decide +kernel
theorem dX5_becomeLike_40 : decode cX5_becomeLike 40 = .ok (.aload_n 1, 1) := by decide +kernel
theorem dX5_becomeLike_41 : decode cX5_becomeLike 41 = .ok (.getfield 27, 3) := by decide +kernel
theorem dX5_becomeLike_44 : decode cX5_becomeLike 44 = .ok (.iconst 0, 1) := by decide +kernel
theorem dX5_becomeLike_45 : decode cX5_becomeLike 45 = .ok (.aload_n 0, 1) := by decide +kernel
theorem dX5_becomeLike_46 : decode cX5_becomeLike 46 = .ok (.getfield 27, 3) := by decide +kernel
theorem dX5_becomeLike_49 : decode cX5_becomeLike 49 = .ok (.iconst 0, 1) := by decide +kernel
theorem dX5_becomeLike_50 : decode cX5_becomeLike 50 = .ok (.bipush 6, 2) := by decide +kernel
theorem dX5_becomeLike_52 : decode cX5_becomeLike 52 = .ok (.invokestatic 65, 3) := by decide +kernel
theorem dX5_becomeLike_55 : decode cX5_becomeLike 55 = .ok (.aload_n 1, 1) := by decide +kernel
theorem dX5_becomeLike_56 : decode cX5_becomeLike 56 = .ok (.getfield 31, 3) := by decide +kernel
theorem dX5_becomeLike_59 : decode cX5_becomeLike 59 = .ok (.iconst 0, 1) := by decide +kernel
theorem dX5_becomeLike_60 : decode cX5_becomeLike 60 = .ok (.aload_n 0, 1) := by decide +kernel
theorem dX5_becomeLike_61 : decode cX5_becomeLike 61 = .ok (.getfield 31, 3) := by decide +kernel
theorem dX5_becomeLike_64 : decode cX5_becomeLike 64 = .ok (.iconst 0, 1) := by decide +kernel
theorem dX5_becomeLike_65 : decode cX5_becomeLike 65 = .ok (.bipush 6, 2) := by decide +kernel
theorem dX5_becomeLike_67 : decode cX5_becomeLike 67 = .ok (.invokestatic 65, 3) := by decide +kernel
theorem dX5_becomeLike_70 : decode cX5_becomeLike 70 = .ok (.aload_n 1, 1) := by decide +kernel
theorem dX5_becomeLike_71 : decode cX5_becomeLike 71 = .ok (.getfield 34, 3) := by decide +kernel
theorem dX5_becomeLike_74 : decode cX5_becomeLike 74 = .ok (.iconst 0, 1) := by decide +kernel
theorem dX5_becomeLike_75 : decode cX5_becomeLike 75 = .ok (.aload_n 0, 1) := by decide +kernel
theorem dX5_becomeLike_76 : decode cX5_becomeLike 76 = .ok (.getfield 34, 3) := by decide +kernel
theorem dX5_becomeLike_79 : decode cX5_becomeLike 79 = .ok (.iconst 0, 1) := by decide +kernel
theorem dX5_becomeLike_80 : decode cX5_becomeLike 80 = .ok (.bipush 6, 2) := by decide +kernel
theorem dX5_becomeLike_82 : decode cX5_becomeLike 82 = .ok (.invokestatic 65, 3) := by decide +kernel
theorem dX5_becomeLike_85 : decode cX5_becomeLike 85 = .ok (.aload_n 1, 1) := by decide +kernel
theorem dX5_becomeLike_86 : decode cX5_becomeLike 86 = .ok (.getfield 37, 3) := by decide +kernel
theorem dX5_becomeLike_89 : decode cX5_becomeLike 89 = .ok (.iconst 0, 1) := by decide +kernel
theorem dX5_becomeLike_90 : decode cX5_becomeLike 90 = .ok (.aload_n 0, 1) := by decide +kernel
theorem dX5_becomeLike_91 : decode cX5_becomeLike 91 = .ok (.getfield 37, 3) := by decide +kernel
theorem dX5_becomeLike_94 : decode cX5_becomeLike 94 = .ok (.iconst 0, 1) := by decide +kernel
theorem dX5_becomeLike_95 : decode cX5_becomeLike 95 = .ok (.bipush 8, 2) := by decide +kernel
theorem dX5_becomeLike_97 : decode cX5_becomeLike 97 = .ok (.invokestatic 65, 3) := by decide +kernel
theorem dX5_becomeLike_100 : decode cX5_becomeLike 100 = .ok (.aload_n 1, 1) := by decide +kernel
theorem dX5_becomeLike_101 : decode cX5_becomeLike 101 = .ok (.getfield 40, 3) := by decide +kernel
theorem dX5_becomeLike_104 : decode cX5_becomeLike 104 = .ok (.iconst 0, 1) := by decide +kernel
theorem dX5_becomeLike_105 : decode cX5_becomeLike 105 = .ok (.aload_n 0, 1) := by decide +kernel
theorem dX5_becomeLike_106 : decode cX5_becomeLike 106 = .ok (.getfield 40, 3) := by decide +kernel
theorem dX5_becomeLike_109 : decode cX5_becomeLike 109 = .ok (.iconst 0, 1) := by decide +kernel
theorem dX5_becomeLike_110 : decode cX5_becomeLike 110 = .ok (.bipush 8, 2) := by decide +kernel
theorem dX5_becomeLike_112 : decode cX5_becomeLike 112 = .ok (.invokestatic 65, 3) := by decide +kernel
theorem dX5_becomeLike_115 : decode cX5_becomeLike 115 = .ok (.aload_n 1, 1) := by decide +kernel
theorem dX5_becomeLike_116 : decode cX5_becomeLike 116 = .ok (.getfield 43, 3) := by decide +kernel
theorem dX5_becomeLike_119 : decode cX5_becomeLike 119 = .ok (.iconst 0, 1) := by decide +kernel
theorem dX5_becomeLike_120 : decode cX5_becomeLike 120 = .ok (.aload_n 0, 1) := by decide +kernel
theorem dX5_becomeLike_121 : decode cX5_becomeLike 121 = .ok (.getfield 43, 3) := by decide +kernel
theorem dX5_becomeLike_124 : decode cX5_becomeLike 124 = .ok (.iconst 0, 1) := by decide +kernel
theorem dX5_becomeLike_125 : decode cX5_becomeLike 125 = .ok (.bipush 8, 2) := by decide +kernel
theorem dX5_becomeLike_127 : decode cX5_becomeLike 127 = .ok (.invokestatic 65, 3) := by decide +kernel
theorem dX5_becomeLike_130 : decode cX5_becomeLike 130 = .ok (.aload_n 1, 1) := by decide +kernel
theorem dX5_becomeLike_131 : decode cX5_becomeLike 131 = .ok (.getfield 46, 3) := by decide +kernel
theorem dX5_becomeLike_134 : decode cX5_becomeLike 134 = .ok (.iconst 0, 1) := by decide +kernel
theorem dX5_becomeLike_135 : decode cX5_becomeLike 135 = .ok (.aload_n 0, 1) := by decide +kernel
theorem dX5_becomeLike_136 : decode cX5_becomeLike 136 = .ok (.getfield 46, 3) := by decide +kernel
theorem dX5_becomeLike_139 : decode cX5_becomeLike 139 = .ok (.iconst 0, 1) := by decide +kernel
theorem dX5_becomeLike_140 : decode cX5_becomeLike 140 = .ok (.bipush 8, 2) := by decide +kernel
theorem dX5_becomeLike_142 : decode cX5_becomeLike 142 = .ok (.invokestatic 65, 3) := by decide +kernel
theorem dX5_becomeLike_145 : decode cX5_becomeLike 145 = .ok (.aload_n 1, 1) := by decide +kernel
theorem dX5_becomeLike_146 : decode cX5_becomeLike 146 = .ok (.getfield 49, 3) := by decide +kernel
theorem dX5_becomeLike_149 : decode cX5_becomeLike 149 = .ok (.iconst 0, 1) := by decide +kernel
theorem dX5_becomeLike_150 : decode cX5_becomeLike 150 = .ok (.aload_n 0, 1) := by decide +kernel
theorem dX5_becomeLike_151 : decode cX5_becomeLike 151 = .ok (.getfield 49, 3) := by decide +kernel
theorem dX5_becomeLike_154 : decode cX5_becomeLike 154 = .ok (.iconst 0, 1) := by decide +kernel
theorem dX5_becomeLike_155 : decode cX5_becomeLike 155 = .ok (.bipush 8, 2) := by decide +kernel
theorem dX5_becomeLike_157 : decode cX5_becomeLike 157 = .ok (.invokestatic 65, 3) := by decide +kernel
theorem dX5_becomeLike_160 : decode cX5_becomeLike 160 = .ok (.aload_n 1, 1) := by decide +kernel
theorem dX5_becomeLike_161 : decode cX5_becomeLike 161 = .ok (.getfield 52, 3) := by decide +kernel
theorem dX5_becomeLike_164 : decode cX5_becomeLike 164 = .ok (.iconst 0, 1) := by decide +kernel
theorem dX5_becomeLike_165 : decode cX5_becomeLike 165 = .ok (.aload_n 0, 1) := by decide +kernel
theorem dX5_becomeLike_166 : decode cX5_becomeLike 166 = .ok (.getfield 52, 3) := by decide +kernel
theorem dX5_becomeLike_169 : decode cX5_becomeLike 169 = .ok (.iconst 0, 1) := by decide +kernel
theorem dX5_becomeLike_170 : decode cX5_becomeLike 170 = .ok (.bipush 8, 2) := by decide +kernel
theorem dX5_becomeLike_172 : decode cX5_becomeLike 172 = .ok (.invokestatic 65, 3) := by decide +kernel
theorem dX5_becomeLike_175 : decode cX5_becomeLike 175 = .ok (.aload_n 1, 1) := by decide +kernel
theorem dX5_becomeLike_176 : decode cX5_becomeLike 176 = .ok (.getfield 55, 3) := by decide +kernel
theorem dX5_becomeLike_179 : decode cX5_becomeLike 179 = .ok (.iconst 0, 1) := by decide +kernel
theorem dX5_becomeLike_180 : decode cX5_becomeLike 180 = .ok (.aload_n 0, 1) := by decide +kernel
theorem dX5_becomeLike_181 : decode cX5_becomeLike 181 = .ok (.getfield 55, 3) := by decide +kernel
theorem dX5_becomeLike_184 : decode cX5_becomeLike 184 = .ok (.iconst 0, 1) := by decide +kernel
theorem dX5_becomeLike_185 : decode cX5_becomeLike 185 = .ok (.bipush 8, 2) := by decide +kernel
theorem dX5_becomeLike_187 : decode cX5_becomeLike 187 = .ok (.invokestatic 65, 3) := by decide +kernel
theorem dX5_becomeLike_190 : decode cX5_becomeLike 190 = .ok (.return_, 1) := by decide +kernel
theorem dX5_pass_0 : decode cX5_pass 0 = .ok (.aload_n 0, 1) := by decide +kernel
theorem dX5_pass_1 : decode cX5_pass 1 = .ok (.invokevirtual 71, 3) := by decide +kernel
theorem dX5_pass_4 : decode cX5_pass 4 = .ok (.istore_n 1, 1) := by decide +kernel
theorem dX5_pass_5 : decode cX5_pass 5 = .ok (.iconst 0, 1) := by decide +kernel
theorem dX5_pass_6 : decode cX5_pass 6 = .ok (.istore_n 2, 1) := by decide +kernel
theorem dX5_pass_7 : decode cX5_pass 7 = .ok (.iload_n 2, 1) := by decide +kernel
theorem dX5_pass_8 : decode cX5_pass 8 = .ok (.aload_n 0, 1) := by decide +kernel
theorem dX5_pass_9 : decode cX5_pass 9 = .ok (.getfield 18, 3) := by decide +kernel
theorem dX5_pass_12 : decode cX5_pass 12 = .ok (.if_icmp .ge 28, 3) := by decide +kernel
theorem dX5_pass_15 : decode cX5_pass 15 = .ok (.iload_n 1, 1) := by decide +kernel
theorem dX5_pass_16 : decode cX5_pass 16 = .ok (.iload_n 2, 1) := by decide +kernel
theorem dX5_pass_17 : decode cX5_pass 17 = .ok (.ishr, 1) := by decide +kernel
theorem dX5_pass_18 : decode cX5_pass 18 = .ok (.iconst 1, 1) := by decide +kernel
theorem dX5_pass_19 : decode cX5_pass 19 = .ok (.iand, 1) := by decide +kernel
theorem dX5_pass_20 : decode cX5_pass 20 = .ok (.ifCond .eq 14, 3) := by decide +kernel
theorem dX5_pass_23 : decode cX5_pass 23 = .ok (.aload_n 0, 1) := by decide +kernel
theorem dX5_pass_24 : decode cX5_pass 24 = .ok (.iload_n 2, 1) := by decide +kernel
theorem dX5_pass_25 : decode cX5_pass 25 = .ok (.aload_n 0, 1) := by decide +kernel
theorem dX5_pass_26 : decode cX5_pass 26 = .ok (.getfield 34, 3) := by decide +kernel
theorem dX5_pass_29 : decode cX5_pass 29 = .ok (.iload_n 2, 1) := by decide +kernel
theorem dX5_pass_30 : decode cX5_pass 30 = .ok (.iaload, 1) := by decide +kernel
theorem dX5_pass_31 : decode cX5_pass 31 = .ok (.invokevirtual 75, 3) := by decide +kernel
theorem dX5_pass_34 : decode cX5_pass 34 = .ok (.iinc 2 1, 3) := by decide +kernel
theorem dX5_pass_37 : decode cX5_pass 37 = .ok (.goto (-30), 3) := by decide +kernel
theorem dX5_pass_40 : decode cX5_pass 40 = .ok (.aload_n 0, 1) := by decide +kernel
theorem dX5_pass_41 : decode cX5_pass 41 = .ok (.dup, 1) := by decide +kernel
theorem dX5_pass_42 : decode cX5_pass 42 = .ok (.getfield 15, 3) := by decide +kernel
theorem dX5_pass_45 : decode cX5_pass 45 = .ok (.iconst 1, 1) := by decide +kernel
theorem dX5_pass_46 : decode cX5_pass 46 = .ok (.iadd, 1) := by decide +kernel
theorem dX5_pass_47 : decode cX5_pass 47 = .ok (.putfield 15, 3) := by decide +kernel
theorem dX5_pass_50 : decode cX5_pass 50 = .ok (.return_, 1) := by decide +kernel
theorem dX5_letIn_0 : decode cX5_letIn 0 = .ok (.iconst 0, 1) := by decide +kernel
theorem dX5_letIn_1 : decode cX5_letIn 1 = .ok (.istore_n 1, 1) := by decide +kernel
theorem dX5_letIn_2 : decode cX5_letIn 2 = .ok (.iconst 0, 1) := by decide +kernel
theorem dX5_letIn_3 : decode cX5_letIn 3 = .ok (.istore_n 2, 1) := by decide +kernel
theorem dX5_letIn_4 : decode cX5_letIn 4 = .ok (.iload_n 2, 1) := by decide +kernel
theorem dX5_letIn_5 : decode cX5_letIn 5 = .ok (.aload_n 0, 1) := by decide +kernel
theorem dX5_letIn_6 : decode cX5_letIn 6 = .ok (.getfield 18, 3) := by decide +kernel
theorem dX5_letIn_9 : decode cX5_letIn 9 = .ok (.if_icmp .ge 59, 3) := by decide +kernel
theorem dX5_letIn_12 : decode cX5_letIn 12 = .ok (.aload_n 0, 1) := by decide +kernel
theorem dX5_letIn_13 : decode cX5_letIn 13 = .ok (.getfield 34, 3) := by decide +kernel
theorem dX5_letIn_16 : decode cX5_letIn 16 = .ok (.iload_n 2, 1) := by decide +kernel
theorem dX5_letIn_17 : decode cX5_letIn 17 = .ok (.iaload, 1) := by decide +kernel
theorem dX5_letIn_18 : decode cX5_letIn 18 = .ok (.bipush 10, 2) := by decide +kernel
theorem dX5_letIn_20 : decode cX5_letIn 20 = .ok (.if_icmp .ne 23, 3) := by decide +kernel
theorem dX5_letIn_23 : decode cX5_letIn 23 = .ok (.aload_n 0, 1) := by decide +kernel
theorem dX5_letIn_24 : decode cX5_letIn 24 = .ok (.getfield 31, 3) := by decide +kernel
theorem dX5_letIn_27 : decode cX5_letIn 27 = .ok (.iload_n 2, 1) := by decide +kernel
theorem dX5_letIn_28 : decode cX5_letIn 28 = .ok (.iaload, 1) := by decide +kernel
theorem dX5_letIn_29 : decode cX5_letIn 29 = .ok (.aload_n 0, 1) := by decide +kernel
theorem dX5_letIn_30 : decode cX5_letIn 30 = .ok (.getfield 15, 3) := by decide +kernel
theorem dX5_letIn_33 : decode cX5_letIn 33 = .ok (.if_icmp .gt 10, 3) := by decide +kernel
theorem dX5_letIn_36 : decode cX5_letIn 36 = .ok (.aload_n 0, 1) := by decide +kernel
theorem dX5_letIn_37 : decode cX5_letIn 37 = .ok (.getfield 34, 3) := by decide +kernel
theorem dX5_letIn_40 : decode cX5_letIn 40 = .ok (.iload_n 2, 1) := by decide +kernel
theorem dX5_letIn_41 : decode cX5_letIn 41 = .ok (.iconst 0, 1) := by decide +kernel
theorem dX5_letIn_42 : decode cX5_letIn 42 = .ok (.iastore, 1) := by decide +kernel
theorem dX5_letIn_43 : decode cX5_letIn 43 = .ok (.aload_n 0, 1) := by decide +kernel
theorem dX5_letIn_44 : decode cX5_letIn 44 = .ok (.getfield 34, 3) := by decide +kernel
theorem dX5_letIn_47 : decode cX5_letIn 47 = .ok (.iload_n 2, 1) := by decide +kernel
theorem dX5_letIn_48 : decode cX5_letIn 48 = .ok (.iaload, 1) := by decide +kernel
theorem dX5_letIn_49 : decode cX5_letIn 49 = .ok (.aload_n 0, 1) := by decide +kernel
theorem dX5_letIn_50 : decode cX5_letIn 50 = .ok (.getfield 21, 3) := by decide +kernel
theorem dX5_letIn_53 : decode cX5_letIn 53 = .ok (.if_icmp .ge 9, 3) := by decide +kernel
theorem dX5_letIn_56 : decode cX5_letIn 56 = .ok (.iload_n 1, 1) := by decide +kernel
theorem dX5_letIn_57 : decode cX5_letIn 57 = .ok (.iconst 1, 1) := by decide +kernel
theorem dX5_letIn_58 : decode cX5_letIn 58 = .ok (.iload_n 2, 1) := by decide +kernel
theorem dX5_letIn_59 : decode cX5_letIn 59 = .ok (.ishl, 1) := by decide +kernel
theorem dX5_letIn_60 : decode cX5_letIn 60 = .ok (.ior, 1) := by decide +kernel
theorem dX5_letIn_61 : decode cX5_letIn 61 = .ok (.istore_n 1, 1) := by decide +kernel
theorem dX5_letIn_62 : decode cX5_letIn 62 = .ok (.iinc 2 1, 3) := by decide +kernel
theorem dX5_letIn_65 : decode cX5_letIn 65 = .ok (.goto (-61), 3) := by decide +kernel
theorem dX5_letIn_68 : decode cX5_letIn 68 = .ok (.iload_n 1, 1) := by decide +kernel
theorem dX5_letIn_69 : decode cX5_letIn 69 = .ok (.ireturn, 1) := by decide +kernel
theorem dX5_leave_0 : decode cX5_leave 0 = .ok (.aload_n 0, 1) := by decide +kernel
theorem dX5_leave_1 : decode cX5_leave 1 = .ok (.getfield 52, 3) := by decide +kernel
theorem dX5_leave_4 : decode cX5_leave 4 = .ok (.iload_n 2, 1) := by decide +kernel
theorem dX5_leave_5 : decode cX5_leave 5 = .ok (.sipush 999, 3) := by decide +kernel
theorem dX5_leave_8 : decode cX5_leave 8 = .ok (.aload_n 0, 1) := by decide +kernel
theorem dX5_leave_9 : decode cX5_leave 9 = .ok (.getfield 52, 3) := by decide +kernel
theorem dX5_leave_12 : decode cX5_leave 12 = .ok (.iload_n 2, 1) := by decide +kernel
theorem dX5_leave_13 : decode cX5_leave 13 = .ok (.iaload, 1) := by decide +kernel
theorem dX5_leave_14 : decode cX5_leave 14 = .ok (.iconst 1, 1) := by decide +kernel
theorem dX5_leave_15 : decode cX5_leave 15 = .ok (.iadd, 1) := by decide +kernel
theorem dX5_leave_16 : decode cX5_leave 16 = .ok (.invokestatic 79, 3) := by decide +kernel
theorem dX5_leave_19 : decode cX5_leave 19 = .ok (.iastore, 1) := by decide +kernel
theorem dX5_leave_20 : decode cX5_leave 20 = .ok (.aload_n 0, 1) := by decide +kernel
theorem dX5_leave_21 : decode cX5_leave 21 = .ok (.getfield 55, 3) := by decide +kernel
theorem dX5_leave_24 : decode cX5_leave 24 = .ok (.iload_n 2, 1) := by decide +kernel
theorem dX5_leave_25 : decode cX5_leave 25 = .ok (.sipush 9999, 3) := by decide +kernel
theorem dX5_leave_28 : decode cX5_leave 28 = .ok (.aload_n 0, 1) := by decide +kernel
theorem dX5_leave_29 : decode cX5_leave 29 = .ok (.getfield 55, 3) := by decide +kernel
theorem dX5_leave_32 : decode cX5_leave 32 = .ok (.iload_n 2, 1) := by decide +kernel
theorem dX5_leave_33 : decode cX5_leave 33 = .ok (.iaload, 1) := by decide +kernel
theorem dX5_leave_34 : decode cX5_leave 34 = .ok (.aload_n 0, 1) := by decide +kernel
theorem dX5_leave_35 : decode cX5_leave 35 = .ok (.getfield 27, 3) := by decide +kernel
theorem dX5_leave_38 : decode cX5_leave 38 = .ok (.iload_n 1, 1) := by decide +kernel
theorem dX5_leave_39 : decode cX5_leave 39 = .ok (.iaload, 1) := by decide +kernel
theorem dX5_leave_40 : decode cX5_leave 40 = .ok (.iadd, 1) := by decide +kernel
theorem dX5_leave_41 : decode cX5_leave 41 = .ok (.invokestatic 79, 3) := by decide +kernel
theorem dX5_leave_44 : decode cX5_leave 44 = .ok (.iastore, 1) := by decide +kernel
theorem dX5_leave_45 : decode cX5_leave 45 = .ok (.aload_n 0, 1) := by decide +kernel
theorem dX5_leave_46 : decode cX5_leave 46 = .ok (.getfield 24, 3) := by decide +kernel
theorem dX5_leave_49 : decode cX5_leave 49 = .ok (.iload_n 2, 1) := by decide +kernel
theorem dX5_leave_50 : decode cX5_leave 50 = .ok (.ishr, 1) := by decide +kernel
theorem dX5_leave_51 : decode cX5_leave 51 = .ok (.iconst 1, 1) := by decide +kernel
theorem dX5_leave_52 : decode cX5_leave 52 = .ok (.iand, 1) := by decide +kernel
theorem dX5_leave_53 : decode cX5_leave 53 = .ok (.ifCond .eq 15, 3) := by decide +kernel
theorem dX5_leave_56 : decode cX5_leave 56 = .ok (.aload_n 0, 1) := by decide +kernel
theorem dX5_leave_57 : decode cX5_leave 57 = .ok (.iload_n 1, 1) := by decide +kernel
theorem dX5_leave_58 : decode cX5_leave 58 = .ok (.aload_n 0, 1) := by decide +kernel
theorem dX5_leave_59 : decode cX5_leave 59 = .ok (.getfield 43, 3) := by decide +kernel
theorem dX5_leave_62 : decode cX5_leave 62 = .ok (.iload_n 2, 1) := by decide +kernel
theorem dX5_leave_63 : decode cX5_leave 63 = .ok (.iaload, 1) := by decide +kernel
theorem dX5_leave_64 : decode cX5_leave 64 = .ok (.invokevirtual 85, 3) := by decide +kernel
theorem dX5_leave_67 : decode cX5_leave 67 = .ok (.return_, 1) := by decide +kernel
theorem dX5_leave_68 : decode cX5_leave 68 = .ok (.aload_n 0, 1) := by decide +kernel
theorem dX5_leave_69 : decode cX5_leave 69 = .ok (.getfield 37, 3) := by decide +kernel
theorem dX5_leave_72 : decode cX5_leave 72 = .ok (.iload_n 2, 1) := by decide +kernel
theorem dX5_leave_73 : decode cX5_leave 73 = .ok (.iaload, 1) := by decide +kernel
theorem dX5_leave_74 : decode cX5_leave 74 = .ok (.tableswitch 209 1 4 #[30, 67, 115, 173], 30) := by decide +kernel
theorem dX5_leave_104 : decode cX5_leave 104 = .ok (.aload_n 0, 1) := by decide +kernel
theorem dX5_leave_105 : decode cX5_leave 105 = .ok (.iload_n 1, 1) := by decide +kernel
theorem dX5_leave_106 : decode cX5_leave 106 = .ok (.aload_n 0, 1) := by decide +kernel
theorem dX5_leave_107 : decode cX5_leave 107 = .ok (.getfield 40, 3) := by decide +kernel
theorem dX5_leave_110 : decode cX5_leave 110 = .ok (.iload_n 2, 1) := by decide +kernel
theorem dX5_leave_111 : decode cX5_leave 111 = .ok (.iaload, 1) := by decide +kernel
theorem dX5_leave_112 : decode cX5_leave 112 = .ok (.ifCond .ne 12, 3) := by decide +kernel
theorem dX5_leave_115 : decode cX5_leave 115 = .ok (.aload_n 0, 1) := by decide +kernel
theorem dX5_leave_116 : decode cX5_leave 116 = .ok (.getfield 43, 3) := by decide +kernel
theorem dX5_leave_119 : decode cX5_leave 119 = .ok (.iload_n 2, 1) := by decide +kernel
theorem dX5_leave_120 : decode cX5_leave 120 = .ok (.iaload, 1) := by decide +kernel
theorem dX5_leave_121 : decode cX5_leave 121 = .ok (.goto 9, 3) := by decide +kernel
theorem dX5_leave_124 : decode cX5_leave 124 = .ok (.aload_n 0, 1) := by decide +kernel
theorem dX5_leave_125 : decode cX5_leave 125 = .ok (.getfield 46, 3) := by decide +kernel
theorem dX5_leave_128 : decode cX5_leave 128 = .ok (.iload_n 2, 1) := by decide +kernel
theorem dX5_leave_129 : decode cX5_leave 129 = .ok (.iaload, 1) := by decide +kernel
theorem dX5_leave_130 : decode cX5_leave 130 = .ok (.invokevirtual 85, 3) := by decide +kernel
theorem dX5_leave_133 : decode cX5_leave 133 = .ok (.aload_n 0, 1) := by decide +kernel
theorem dX5_leave_134 : decode cX5_leave 134 = .ok (.iload_n 2, 1) := by decide +kernel
theorem dX5_leave_135 : decode cX5_leave 135 = .ok (.invokevirtual 88, 3) := by decide +kernel
theorem dX5_leave_138 : decode cX5_leave 138 = .ok (.goto 176, 3) := by decide +kernel
theorem dX5_leave_141 : decode cX5_leave 141 = .ok (.aload_n 0, 1) := by decide +kernel
theorem dX5_leave_142 : decode cX5_leave 142 = .ok (.iload_n 1, 1) := by decide +kernel
theorem dX5_leave_143 : decode cX5_leave 143 = .ok (.aload_n 0, 1) := by decide +kernel
theorem dX5_leave_144 : decode cX5_leave 144 = .ok (.getfield 40, 3) := by decide +kernel
theorem dX5_leave_147 : decode cX5_leave 147 = .ok (.iload_n 2, 1) := by decide +kernel
theorem dX5_leave_148 : decode cX5_leave 148 = .ok (.iaload, 1) := by decide +kernel
theorem dX5_leave_149 : decode cX5_leave 149 = .ok (.ifCond .ne 12, 3) := by decide +kernel
theorem dX5_leave_152 : decode cX5_leave 152 = .ok (.aload_n 0, 1) := by decide +kernel
theorem dX5_leave_153 : decode cX5_leave 153 = .ok (.getfield 43, 3) := by decide +kernel
theorem dX5_leave_156 : decode cX5_leave 156 = .ok (.iload_n 2, 1) := by decide +kernel
theorem dX5_leave_157 : decode cX5_leave 157 = .ok (.iaload, 1) := by decide +kernel
theorem dX5_leave_158 : decode cX5_leave 158 = .ok (.goto 9, 3) := by decide +kernel
theorem dX5_leave_161 : decode cX5_leave 161 = .ok (.aload_n 0, 1) := by decide +kernel
theorem dX5_leave_162 : decode cX5_leave 162 = .ok (.getfield 46, 3) := by decide +kernel
theorem dX5_leave_165 : decode cX5_leave 165 = .ok (.iload_n 2, 1) := by decide +kernel
theorem dX5_leave_166 : decode cX5_leave 166 = .ok (.iaload, 1) := by decide +kernel
theorem dX5_leave_167 : decode cX5_leave 167 = .ok (.invokevirtual 85, 3) := by decide +kernel
theorem dX5_leave_170 : decode cX5_leave 170 = .ok (.aload_n 0, 1) := by decide +kernel
theorem dX5_leave_171 : decode cX5_leave 171 = .ok (.getfield 52, 3) := by decide +kernel
theorem dX5_leave_174 : decode cX5_leave 174 = .ok (.iload_n 2, 1) := by decide +kernel
theorem dX5_leave_175 : decode cX5_leave 175 = .ok (.iaload, 1) := by decide +kernel
theorem dX5_leave_176 : decode cX5_leave 176 = .ok (.iconst 2, 1) := by decide +kernel
theorem dX5_leave_177 : decode cX5_leave 177 = .ok (.irem, 1) := by decide +kernel
theorem dX5_leave_178 : decode cX5_leave 178 = .ok (.ifCond .ne 136, 3) := by decide +kernel
theorem dX5_leave_181 : decode cX5_leave 181 = .ok (.aload_n 0, 1) := by decide +kernel
theorem dX5_leave_182 : decode cX5_leave 182 = .ok (.iload_n 2, 1) := by decide +kernel
theorem dX5_leave_183 : decode cX5_leave 183 = .ok (.invokevirtual 88, 3) := by decide +kernel
theorem dX5_leave_186 : decode cX5_leave 186 = .ok (.goto 128, 3) := by decide +kernel
theorem dX5_leave_189 : decode cX5_leave 189 = .ok (.aload_n 0, 1) := by decide +kernel
theorem dX5_leave_190 : decode cX5_leave 190 = .ok (.getfield 49, 3) := by decide +kernel
theorem dX5_leave_193 : decode cX5_leave 193 = .ok (.iload_n 2, 1) := by decide +kernel
theorem dX5_leave_194 : decode cX5_leave 194 = .ok (.iaload, 1) := by decide +kernel
theorem dX5_leave_195 : decode cX5_leave 195 = .ok (.ldc 64, 2) := by decide +kernel
theorem dX5_leave_197 : decode cX5_leave 197 = .ok (.if_icmp .ne 12, 3) := by decide +kernel
theorem dX5_leave_200 : decode cX5_leave 200 = .ok (.aload_n 0, 1) := by decide +kernel
theorem dX5_leave_201 : decode cX5_leave 201 = .ok (.iload_n 1, 1) := by decide +kernel
theorem dX5_leave_202 : decode cX5_leave 202 = .ok (.iload_n 2, 1) := by decide +kernel
theorem dX5_leave_203 : decode cX5_leave 203 = .ok (.invokevirtual 92, 3) := by decide +kernel
theorem dX5_leave_206 : decode cX5_leave 206 = .ok (.goto 108, 3) := by decide +kernel
theorem dX5_leave_209 : decode cX5_leave 209 = .ok (.aload_n 0, 1) := by decide +kernel
theorem dX5_leave_210 : decode cX5_leave 210 = .ok (.aload_n 0, 1) := by decide +kernel
theorem dX5_leave_211 : decode cX5_leave 211 = .ok (.getfield 49, 3) := by decide +kernel
theorem dX5_leave_214 : decode cX5_leave 214 = .ok (.iload_n 2, 1) := by decide +kernel
theorem dX5_leave_215 : decode cX5_leave 215 = .ok (.iaload, 1) := by decide +kernel
theorem dX5_leave_216 : decode cX5_leave 216 = .ok (.aload_n 0, 1) := by decide +kernel
theorem dX5_leave_217 : decode cX5_leave 217 = .ok (.getfield 43, 3) := by decide +kernel
theorem dX5_leave_220 : decode cX5_leave 220 = .ok (.iload_n 2, 1) := by decide +kernel
theorem dX5_leave_221 : decode cX5_leave 221 = .ok (.iaload, 1) := by decide +kernel
theorem dX5_leave_222 : decode cX5_leave 222 = .ok (.invokevirtual 85, 3) := by decide +kernel
theorem dX5_leave_225 : decode cX5_leave 225 = .ok (.aload_n 0, 1) := by decide +kernel
theorem dX5_leave_226 : decode cX5_leave 226 = .ok (.iload_n 1, 1) := by decide +kernel
theorem dX5_leave_227 : decode cX5_leave 227 = .ok (.aload_n 0, 1) := by decide +kernel
theorem dX5_leave_228 : decode cX5_leave 228 = .ok (.getfield 46, 3) := by decide +kernel
theorem dX5_leave_231 : decode cX5_leave 231 = .ok (.iload_n 2, 1) := by decide +kernel
theorem dX5_leave_232 : decode cX5_leave 232 = .ok (.iaload, 1) := by decide +kernel
theorem dX5_leave_233 : decode cX5_leave 233 = .ok (.invokevirtual 85, 3) := by decide +kernel
theorem dX5_leave_236 : decode cX5_leave 236 = .ok (.aload_n 0, 1) := by decide +kernel
theorem dX5_leave_237 : decode cX5_leave 237 = .ok (.getfield 49, 3) := by decide +kernel
theorem dX5_leave_240 : decode cX5_leave 240 = .ok (.iload_n 2, 1) := by decide +kernel
theorem dX5_leave_241 : decode cX5_leave 241 = .ok (.ldc 64, 2) := by decide +kernel
theorem dX5_leave_243 : decode cX5_leave 243 = .ok (.iastore, 1) := by decide +kernel
theorem dX5_leave_244 : decode cX5_leave 244 = .ok (.goto 70, 3) := by decide +kernel
theorem dX5_leave_247 : decode cX5_leave 247 = .ok (.aload_n 0, 1) := by decide +kernel
theorem dX5_leave_248 : decode cX5_leave 248 = .ok (.iload_n 1, 1) := by decide +kernel
theorem dX5_leave_249 : decode cX5_leave 249 = .ok (.aload_n 0, 1) := by decide +kernel
theorem dX5_leave_250 : decode cX5_leave 250 = .ok (.getfield 27, 3) := by decide +kernel
theorem dX5_leave_253 : decode cX5_leave 253 = .ok (.iload_n 1, 1) := by decide +kernel
theorem dX5_leave_254 : decode cX5_leave 254 = .ok (.iaload, 1) := by decide +kernel
theorem dX5_leave_255 : decode cX5_leave 255 = .ok (.aload_n 0, 1) := by decide +kernel
theorem dX5_leave_256 : decode cX5_leave 256 = .ok (.getfield 9, 3) := by decide +kernel
theorem dX5_leave_259 : decode cX5_leave 259 = .ok (.if_icmp .lt 12, 3) := by decide +kernel
theorem dX5_leave_262 : decode cX5_leave 262 = .ok (.aload_n 0, 1) := by decide +kernel
theorem dX5_leave_263 : decode cX5_leave 263 = .ok (.getfield 46, 3) := by decide +kernel
theorem dX5_leave_266 : decode cX5_leave 266 = .ok (.iload_n 2, 1) := by decide +kernel
theorem dX5_leave_267 : decode cX5_leave 267 = .ok (.iaload, 1) := by decide +kernel
theorem dX5_leave_268 : decode cX5_leave 268 = .ok (.goto 9, 3) := by decide +kernel
theorem dX5_leave_271 : decode cX5_leave 271 = .ok (.aload_n 0, 1) := by decide +kernel
theorem dX5_leave_272 : decode cX5_leave 272 = .ok (.getfield 43, 3) := by decide +kernel
theorem dX5_leave_275 : decode cX5_leave 275 = .ok (.iload_n 2, 1) := by decide +kernel
theorem dX5_leave_276 : decode cX5_leave 276 = .ok (.iaload, 1) := by decide +kernel
theorem dX5_leave_277 : decode cX5_leave 277 = .ok (.invokevirtual 85, 3) := by decide +kernel
theorem dX5_leave_280 : decode cX5_leave 280 = .ok (.goto 34, 3) := by decide +kernel
theorem dX5_leave_283 : decode cX5_leave 283 = .ok (.aload_n 0, 1) := by decide +kernel
theorem dX5_leave_284 : decode cX5_leave 284 = .ok (.iload_n 1, 1) := by decide +kernel
theorem dX5_leave_285 : decode cX5_leave 285 = .ok (.aload_n 0, 1) := by decide +kernel
theorem dX5_leave_286 : decode cX5_leave 286 = .ok (.getfield 55, 3) := by decide +kernel
theorem dX5_leave_289 : decode cX5_leave 289 = .ok (.iload_n 2, 1) := by decide +kernel
theorem dX5_leave_290 : decode cX5_leave 290 = .ok (.iaload, 1) := by decide +kernel
theorem dX5_leave_291 : decode cX5_leave 291 = .ok (.iconst 2, 1) := by decide +kernel
theorem dX5_leave_292 : decode cX5_leave 292 = .ok (.irem, 1) := by decide +kernel
theorem dX5_leave_293 : decode cX5_leave 293 = .ok (.ifCond .ne 12, 3) := by decide +kernel
theorem dX5_leave_296 : decode cX5_leave 296 = .ok (.aload_n 0, 1) := by decide +kernel
theorem dX5_leave_297 : decode cX5_leave 297 = .ok (.getfield 46, 3) := by decide +kernel
theorem dX5_leave_300 : decode cX5_leave 300 = .ok (.iload_n 2, 1) := by decide +kernel
theorem dX5_leave_301 : decode cX5_leave 301 = .ok (.iaload, 1) := by decide +kernel
theorem dX5_leave_302 : decode cX5_leave 302 = .ok (.goto 9, 3) := by decide +kernel
theorem dX5_leave_305 : decode cX5_leave 305 = .ok (.aload_n 0, 1) := by decide +kernel
theorem dX5_leave_306 : decode cX5_leave 306 = .ok (.getfield 43, 3) := by decide +kernel
theorem dX5_leave_309 : decode cX5_leave 309 = .ok (.iload_n 2, 1) := by decide +kernel
theorem dX5_leave_310 : decode cX5_leave 310 = .ok (.iaload, 1) := by decide +kernel
theorem dX5_leave_311 : decode cX5_leave 311 = .ok (.invokevirtual 85, 3) := by decide +kernel
theorem dX5_leave_314 : decode cX5_leave 314 = .ok (.return_, 1) := by decide +kernel
theorem dX5_hold_0 : decode cX5_hold 0 = .ok (.aload_n 0, 1) := by decide +kernel
theorem dX5_hold_1 : decode cX5_hold 1 = .ok (.getfield 49, 3) := by decide +kernel
theorem dX5_hold_4 : decode cX5_hold 4 = .ok (.iload_n 2, 1) := by decide +kernel
theorem dX5_hold_5 : decode cX5_hold 5 = .ok (.iload_n 1, 1) := by decide +kernel
theorem dX5_hold_6 : decode cX5_hold 6 = .ok (.iastore, 1) := by decide +kernel
theorem dX5_hold_7 : decode cX5_hold 7 = .ok (.aload_n 0, 1) := by decide +kernel
theorem dX5_hold_8 : decode cX5_hold 8 = .ok (.getfield 34, 3) := by decide +kernel
theorem dX5_hold_11 : decode cX5_hold 11 = .ok (.iload_n 1, 1) := by decide +kernel
theorem dX5_hold_12 : decode cX5_hold 12 = .ok (.bipush 20, 2) := by decide +kernel
theorem dX5_hold_14 : decode cX5_hold 14 = .ok (.iload_n 2, 1) := by decide +kernel
theorem dX5_hold_15 : decode cX5_hold 15 = .ok (.iadd, 1) := by decide +kernel
theorem dX5_hold_16 : decode cX5_hold 16 = .ok (.iastore, 1) := by decide +kernel
theorem dX5_hold_17 : decode cX5_hold 17 = .ok (.return_, 1) := by decide +kernel
theorem dX5_send_0 : decode cX5_send 0 = .ok (.iload_n 1, 1) := by decide +kernel
theorem dX5_send_1 : decode cX5_send 1 = .ok (.ifCond .lt 37, 3) := by decide +kernel
theorem dX5_send_4 : decode cX5_send 4 = .ok (.iload_n 1, 1) := by decide +kernel
theorem dX5_send_5 : decode cX5_send 5 = .ok (.aload_n 0, 1) := by decide +kernel
theorem dX5_send_6 : decode cX5_send 6 = .ok (.getfield 18, 3) := by decide +kernel
theorem dX5_send_9 : decode cX5_send 9 = .ok (.if_icmp .ge 29, 3) := by decide +kernel
theorem dX5_send_12 : decode cX5_send 12 = .ok (.aload_n 0, 1) := by decide +kernel
theorem dX5_send_13 : decode cX5_send 13 = .ok (.getfield 34, 3) := by decide +kernel
theorem dX5_send_16 : decode cX5_send 16 = .ok (.iload_n 1, 1) := by decide +kernel
theorem dX5_send_17 : decode cX5_send 17 = .ok (.iload_n 2, 1) := by decide +kernel
theorem dX5_send_18 : decode cX5_send 18 = .ok (.aload_n 0, 1) := by decide +kernel
theorem dX5_send_19 : decode cX5_send 19 = .ok (.getfield 21, 3) := by decide +kernel
theorem dX5_send_22 : decode cX5_send 22 = .ok (.if_icmp .lt 14, 3) := by decide +kernel
theorem dX5_send_25 : decode cX5_send 25 = .ok (.iload_n 2, 1) := by decide +kernel
theorem dX5_send_26 : decode cX5_send 26 = .ok (.bipush 8, 2) := by decide +kernel
theorem dX5_send_28 : decode cX5_send 28 = .ok (.if_icmp .ge 8, 3) := by decide +kernel
theorem dX5_send_31 : decode cX5_send 31 = .ok (.bipush 8, 2) := by decide +kernel
theorem dX5_send_33 : decode cX5_send 33 = .ok (.goto 4, 3) := by decide +kernel
theorem dX5_send_36 : decode cX5_send 36 = .ok (.iload_n 2, 1) := by decide +kernel
theorem dX5_send_37 : decode cX5_send 37 = .ok (.iastore, 1) := by decide +kernel
theorem dX5_send_38 : decode cX5_send 38 = .ok (.return_, 1) := by decide +kernel
theorem dX5_swing_0 : decode cX5_swing 0 = .ok (.aload_n 0, 1) := by decide +kernel
theorem dX5_swing_1 : decode cX5_swing 1 = .ok (.getfield 40, 3) := by decide +kernel
theorem dX5_swing_4 : decode cX5_swing 4 = .ok (.iload_n 1, 1) := by decide +kernel
theorem dX5_swing_5 : decode cX5_swing 5 = .ok (.iconst 1, 1) := by decide +kernel
theorem dX5_swing_6 : decode cX5_swing 6 = .ok (.aload_n 0, 1) := by decide +kernel
theorem dX5_swing_7 : decode cX5_swing 7 = .ok (.getfield 40, 3) := by decide +kernel
theorem dX5_swing_10 : decode cX5_swing 10 = .ok (.iload_n 1, 1) := by decide +kernel
theorem dX5_swing_11 : decode cX5_swing 11 = .ok (.iaload, 1) := by decide +kernel
theorem dX5_swing_12 : decode cX5_swing 12 = .ok (.isub, 1) := by decide +kernel
theorem dX5_swing_13 : decode cX5_swing 13 = .ok (.iastore, 1) := by decide +kernel
theorem dX5_swing_14 : decode cX5_swing 14 = .ok (.return_, 1) := by decide +kernel
theorem dX5_throwAnew_0 : decode cX5_throwAnew 0 = .ok (.aload_n 0, 1) := by decide +kernel
theorem dX5_throwAnew_1 : decode cX5_throwAnew 1 = .ok (.getfield 34, 3) := by decide +kernel
theorem dX5_throwAnew_4 : decode cX5_throwAnew 4 = .ok (.iload_n 1, 1) := by decide +kernel
theorem dX5_throwAnew_5 : decode cX5_throwAnew 5 = .ok (.bipush 10, 2) := by decide +kernel
theorem dX5_throwAnew_7 : decode cX5_throwAnew 7 = .ok (.iastore, 1) := by decide +kernel
theorem dX5_throwAnew_8 : decode cX5_throwAnew 8 = .ok (.aload_n 0, 1) := by decide +kernel
theorem dX5_throwAnew_9 : decode cX5_throwAnew 9 = .ok (.getfield 27, 3) := by decide +kernel
theorem dX5_throwAnew_12 : decode cX5_throwAnew 12 = .ok (.iload_n 1, 1) := by decide +kernel
theorem dX5_throwAnew_13 : decode cX5_throwAnew 13 = .ok (.iload_n 2, 1) := by decide +kernel
theorem dX5_throwAnew_14 : decode cX5_throwAnew 14 = .ok (.iastore, 1) := by decide +kernel
theorem dX5_throwAnew_15 : decode cX5_throwAnew 15 = .ok (.aload_n 0, 1) := by decide +kernel
theorem dX5_throwAnew_16 : decode cX5_throwAnew 16 = .ok (.getfield 31, 3) := by decide +kernel
theorem dX5_throwAnew_19 : decode cX5_throwAnew 19 = .ok (.iload_n 1, 1) := by decide +kernel
theorem dX5_throwAnew_20 : decode cX5_throwAnew 20 = .ok (.aload_n 0, 1) := by decide +kernel
theorem dX5_throwAnew_21 : decode cX5_throwAnew 21 = .ok (.getfield 15, 3) := by decide +kernel
theorem dX5_throwAnew_24 : decode cX5_throwAnew 24 = .ok (.iastore, 1) := by decide +kernel
theorem dX5_throwAnew_25 : decode cX5_throwAnew 25 = .ok (.return_, 1) := by decide +kernel
theorem dX5_isInTray_0 : decode cX5_isInTray 0 = .ok (.aload_n 0, 1) := by decide +kernel
theorem dX5_isInTray_1 : decode cX5_isInTray 1 = .ok (.getfield 34, 3) := by decide +kernel
theorem dX5_isInTray_4 : decode cX5_isInTray 4 = .ok (.iload_n 1, 1) := by decide +kernel
theorem dX5_isInTray_5 : decode cX5_isInTray 5 = .ok (.iaload, 1) := by decide +kernel
theorem dX5_isInTray_6 : decode cX5_isInTray 6 = .ok (.bipush 8, 2) := by decide +kernel
theorem dX5_isInTray_8 : decode cX5_isInTray 8 = .ok (.if_icmp .eq 14, 3) := by decide +kernel
theorem dX5_isInTray_11 : decode cX5_isInTray 11 = .ok (.aload_n 0, 1) := by decide +kernel
theorem dX5_isInTray_12 : decode cX5_isInTray 12 = .ok (.getfield 34, 3) := by decide +kernel
theorem dX5_isInTray_15 : decode cX5_isInTray 15 = .ok (.iload_n 1, 1) := by decide +kernel
theorem dX5_isInTray_16 : decode cX5_isInTray 16 = .ok (.iaload, 1) := by decide +kernel
theorem dX5_isInTray_17 : decode cX5_isInTray 17 = .ok (.bipush 9, 2) := by decide +kernel
theorem dX5_isInTray_19 : decode cX5_isInTray 19 = .ok (.if_icmp .ne 7, 3) := by decide +kernel
theorem dX5_isInTray_22 : decode cX5_isInTray 22 = .ok (.iconst 1, 1) := by decide +kernel
theorem dX5_isInTray_23 : decode cX5_isInTray 23 = .ok (.goto 4, 3) := by decide +kernel
theorem dX5_isInTray_26 : decode cX5_isInTray 26 = .ok (.iconst 0, 1) := by decide +kernel
theorem dX5_isInTray_27 : decode cX5_isInTray 27 = .ok (.ireturn, 1) := by decide +kernel
theorem dX5_isAstir_0 : decode cX5_isAstir 0 = .ok (.iconst 0, 1) := by decide +kernel
theorem dX5_isAstir_1 : decode cX5_isAstir 1 = .ok (.istore_n 1, 1) := by decide +kernel
theorem dX5_isAstir_2 : decode cX5_isAstir 2 = .ok (.iload_n 1, 1) := by decide +kernel
theorem dX5_isAstir_3 : decode cX5_isAstir 3 = .ok (.aload_n 0, 1) := by decide +kernel
theorem dX5_isAstir_4 : decode cX5_isAstir 4 = .ok (.getfield 18, 3) := by decide +kernel
theorem dX5_isAstir_7 : decode cX5_isAstir 7 = .ok (.if_icmp .ge 33, 3) := by decide +kernel
theorem dX5_isAstir_10 : decode cX5_isAstir 10 = .ok (.aload_n 0, 1) := by decide +kernel
theorem dX5_isAstir_11 : decode cX5_isAstir 11 = .ok (.getfield 34, 3) := by decide +kernel
theorem dX5_isAstir_14 : decode cX5_isAstir 14 = .ok (.iload_n 1, 1) := by decide +kernel
theorem dX5_isAstir_15 : decode cX5_isAstir 15 = .ok (.iaload, 1) := by decide +kernel
theorem dX5_isAstir_16 : decode cX5_isAstir 16 = .ok (.bipush 8, 2) := by decide +kernel
theorem dX5_isAstir_18 : decode cX5_isAstir 18 = .ok (.if_icmp .lt 14, 3) := by decide +kernel
theorem dX5_isAstir_21 : decode cX5_isAstir 21 = .ok (.aload_n 0, 1) := by decide +kernel
theorem dX5_isAstir_22 : decode cX5_isAstir 22 = .ok (.getfield 34, 3) := by decide +kernel
theorem dX5_isAstir_25 : decode cX5_isAstir 25 = .ok (.iload_n 1, 1) := by decide +kernel
theorem dX5_isAstir_26 : decode cX5_isAstir 26 = .ok (.iaload, 1) := by decide +kernel
theorem dX5_isAstir_27 : decode cX5_isAstir 27 = .ok (.bipush 10, 2) := by decide +kernel
theorem dX5_isAstir_29 : decode cX5_isAstir 29 = .ok (.if_icmp .ne 5, 3) := by decide +kernel
theorem dX5_isAstir_32 : decode cX5_isAstir 32 = .ok (.iconst 1, 1) := by decide +kernel
theorem dX5_isAstir_33 : decode cX5_isAstir 33 = .ok (.ireturn, 1) := by decide +kernel
theorem dX5_isAstir_34 : decode cX5_isAstir 34 = .ok (.iinc 1 1, 3) := by decide +kernel
theorem dX5_isAstir_37 : decode cX5_isAstir 37 = .ok (.goto (-35), 3) := by decide +kernel
theorem dX5_isAstir_40 : decode cX5_isAstir 40 = .ok (.iconst 0, 1) := by decide +kernel
theorem dX5_isAstir_41 : decode cX5_isAstir 41 = .ok (.ireturn, 1) := by decide +kernel
theorem dX5_bitsBetween_0 : decode cX5_bitsBetween 0 = .ok (.iconst 0, 1) := by decide +kernel
theorem dX5_bitsBetween_1 : decode cX5_bitsBetween 1 = .ok (.istore_n 3, 1) := by decide +kernel
theorem dX5_bitsBetween_2 : decode cX5_bitsBetween 2 = .ok (.iconst 0, 1) := by decide +kernel
theorem dX5_bitsBetween_3 : decode cX5_bitsBetween 3 = .ok (.istore 4, 2) := by decide +kernel
theorem dX5_bitsBetween_5 : decode cX5_bitsBetween 5 = .ok (.iload 4, 2) := by decide +kernel
theorem dX5_bitsBetween_7 : decode cX5_bitsBetween 7 = .ok (.aload_n 0, 1) := by decide +kernel
theorem dX5_bitsBetween_8 : decode cX5_bitsBetween 8 = .ok (.getfield 18, 3) := by decide +kernel
theorem dX5_bitsBetween_11 : decode cX5_bitsBetween 11 = .ok (.if_icmp .ge 38, 3) := by decide +kernel
theorem dX5_bitsBetween_14 : decode cX5_bitsBetween 14 = .ok (.aload_n 0, 1) := by decide +kernel
theorem dX5_bitsBetween_15 : decode cX5_bitsBetween 15 = .ok (.getfield 34, 3) := by decide +kernel
theorem dX5_bitsBetween_18 : decode cX5_bitsBetween 18 = .ok (.iload 4, 2) := by decide +kernel
theorem dX5_bitsBetween_20 : decode cX5_bitsBetween 20 = .ok (.iaload, 1) := by decide +kernel
theorem dX5_bitsBetween_21 : decode cX5_bitsBetween 21 = .ok (.iload_n 1, 1) := by decide +kernel
theorem dX5_bitsBetween_22 : decode cX5_bitsBetween 22 = .ok (.if_icmp .lt 21, 3) := by decide +kernel
theorem dX5_bitsBetween_25 : decode cX5_bitsBetween 25 = .ok (.aload_n 0, 1) := by decide +kernel
theorem dX5_bitsBetween_26 : decode cX5_bitsBetween 26 = .ok (.getfield 34, 3) := by decide +kernel
theorem dX5_bitsBetween_29 : decode cX5_bitsBetween 29 = .ok (.iload 4, 2) := by decide +kernel
theorem dX5_bitsBetween_31 : decode cX5_bitsBetween 31 = .ok (.iaload, 1) := by decide +kernel
theorem dX5_bitsBetween_32 : decode cX5_bitsBetween 32 = .ok (.iload_n 2, 1) := by decide +kernel
theorem dX5_bitsBetween_33 : decode cX5_bitsBetween 33 = .ok (.if_icmp .gt 10, 3) := by decide +kernel
theorem dX5_bitsBetween_36 : decode cX5_bitsBetween 36 = .ok (.iload_n 3, 1) := by decide +kernel
theorem dX5_bitsBetween_37 : decode cX5_bitsBetween 37 = .ok (.iconst 1, 1) := by decide +kernel
theorem dX5_bitsBetween_38 : decode cX5_bitsBetween 38 = .ok (.iload 4, 2) := by decide +kernel
theorem dX5_bitsBetween_40 : decode cX5_bitsBetween 40 = .ok (.ishl, 1) := by decide +kernel
theorem dX5_bitsBetween_41 : decode cX5_bitsBetween 41 = .ok (.ior, 1) := by decide +kernel
theorem dX5_bitsBetween_42 : decode cX5_bitsBetween 42 = .ok (.istore_n 3, 1) := by decide +kernel
theorem dX5_bitsBetween_43 : decode cX5_bitsBetween 43 = .ok (.iinc 4 1, 3) := by decide +kernel
theorem dX5_bitsBetween_46 : decode cX5_bitsBetween 46 = .ok (.goto (-41), 3) := by decide +kernel
theorem dX5_bitsBetween_49 : decode cX5_bitsBetween 49 = .ok (.iload_n 3, 1) := by decide +kernel
theorem dX5_bitsBetween_50 : decode cX5_bitsBetween 50 = .ok (.ireturn, 1) := by decide +kernel
theorem dX5_bitsAt_0 : decode cX5_bitsAt 0 = .ok (.aload_n 0, 1) := by decide +kernel
theorem dX5_bitsAt_1 : decode cX5_bitsAt 1 = .ok (.iload_n 1, 1) := by decide +kernel
theorem dX5_bitsAt_2 : decode cX5_bitsAt 2 = .ok (.iload_n 1, 1) := by decide +kernel
theorem dX5_bitsAt_3 : decode cX5_bitsAt 3 = .ok (.invokevirtual 95, 3) := by decide +kernel
theorem dX5_bitsAt_6 : decode cX5_bitsAt 6 = .ok (.ireturn, 1) := by decide +kernel
theorem dX5_bitsRunning_0 : decode cX5_bitsRunning 0 = .ok (.aload_n 0, 1) := by decide +kernel
theorem dX5_bitsRunning_1 : decode cX5_bitsRunning 1 = .ok (.iconst 0, 1) := by decide +kernel
theorem dX5_bitsRunning_2 : decode cX5_bitsRunning 2 = .ok (.bipush 7, 2) := by decide +kernel
theorem dX5_bitsRunning_4 : decode cX5_bitsRunning 4 = .ok (.invokevirtual 95, 3) := by decide +kernel
theorem dX5_bitsRunning_7 : decode cX5_bitsRunning 7 = .ok (.ireturn, 1) := by decide +kernel
theorem dX5_bitsHeld_0 : decode cX5_bitsHeld 0 = .ok (.aload_n 0, 1) := by decide +kernel
theorem dX5_bitsHeld_1 : decode cX5_bitsHeld 1 = .ok (.bipush 20, 2) := by decide +kernel
theorem dX5_bitsHeld_3 : decode cX5_bitsHeld 3 = .ok (.bipush 27, 2) := by decide +kernel
theorem dX5_bitsHeld_5 : decode cX5_bitsHeld 5 = .ok (.invokevirtual 95, 3) := by decide +kernel
theorem dX5_bitsHeld_8 : decode cX5_bitsHeld 8 = .ok (.ireturn, 1) := by decide +kernel
theorem dX5_bitsOutOfTrays_0 : decode cX5_bitsOutOfTrays 0 = .ok (.iconst 1, 1) := by decide +kernel
theorem dX5_bitsOutOfTrays_1 : decode cX5_bitsOutOfTrays 1 = .ok (.aload_n 0, 1) := by decide +kernel
theorem dX5_bitsOutOfTrays_2 : decode cX5_bitsOutOfTrays 2 = .ok (.getfield 18, 3) := by decide +kernel
theorem dX5_bitsOutOfTrays_5 : decode cX5_bitsOutOfTrays 5 = .ok (.ishl, 1) := by decide +kernel
theorem dX5_bitsOutOfTrays_6 : decode cX5_bitsOutOfTrays 6 = .ok (.iconst 1, 1) := by decide +kernel
theorem dX5_bitsOutOfTrays_7 : decode cX5_bitsOutOfTrays 7 = .ok (.isub, 1) := by decide +kernel
theorem dX5_bitsOutOfTrays_8 : decode cX5_bitsOutOfTrays 8 = .ok (.aload_n 0, 1) := by decide +kernel
theorem dX5_bitsOutOfTrays_9 : decode cX5_bitsOutOfTrays 9 = .ok (.bipush 8, 2) := by decide +kernel
theorem dX5_bitsOutOfTrays_11 : decode cX5_bitsOutOfTrays 11 = .ok (.invokevirtual 98, 3) := by decide +kernel
theorem dX5_bitsOutOfTrays_14 : decode cX5_bitsOutOfTrays 14 = .ok (.iconst (-1), 1) := by decide +kernel
theorem dX5_bitsOutOfTrays_15 : decode cX5_bitsOutOfTrays 15 = .ok (.ixor, 1) := by decide +kernel
theorem dX5_bitsOutOfTrays_16 : decode cX5_bitsOutOfTrays 16 = .ok (.iand, 1) := by decide +kernel
theorem dX5_bitsOutOfTrays_17 : decode cX5_bitsOutOfTrays 17 = .ok (.aload_n 0, 1) := by decide +kernel
theorem dX5_bitsOutOfTrays_18 : decode cX5_bitsOutOfTrays 18 = .ok (.bipush 9, 2) := by decide +kernel
theorem dX5_bitsOutOfTrays_20 : decode cX5_bitsOutOfTrays 20 = .ok (.invokevirtual 98, 3) := by decide +kernel
theorem dX5_bitsOutOfTrays_23 : decode cX5_bitsOutOfTrays 23 = .ok (.iconst (-1), 1) := by decide +kernel
theorem dX5_bitsOutOfTrays_24 : decode cX5_bitsOutOfTrays 24 = .ok (.ixor, 1) := by decide +kernel
theorem dX5_bitsOutOfTrays_25 : decode cX5_bitsOutOfTrays 25 = .ok (.iand, 1) := by decide +kernel
theorem dX5_bitsOutOfTrays_26 : decode cX5_bitsOutOfTrays 26 = .ok (.ireturn, 1) := by decide +kernel
theorem dX5_manyAt_0 : decode cX5_manyAt 0 = .ok (.aload_n 0, 1) := by decide +kernel
theorem dX5_manyAt_1 : decode cX5_manyAt 1 = .ok (.iload_n 1, 1) := by decide +kernel
theorem dX5_manyAt_2 : decode cX5_manyAt 2 = .ok (.invokevirtual 98, 3) := by decide +kernel
theorem dX5_manyAt_5 : decode cX5_manyAt 5 = .ok (.invokestatic 102, 3) := by decide +kernel
theorem dX5_manyAt_8 : decode cX5_manyAt 8 = .ok (.ireturn, 1) := by decide +kernel
theorem dX5_weightOf_0 : decode cX5_weightOf 0 = .ok (.iconst 0, 1) := by decide +kernel
theorem dX5_weightOf_1 : decode cX5_weightOf 1 = .ok (.istore_n 2, 1) := by decide +kernel
theorem dX5_weightOf_2 : decode cX5_weightOf 2 = .ok (.iconst 0, 1) := by decide +kernel
theorem dX5_weightOf_3 : decode cX5_weightOf 3 = .ok (.istore_n 3, 1) := by decide +kernel
theorem dX5_weightOf_4 : decode cX5_weightOf 4 = .ok (.iload_n 3, 1) := by decide +kernel
theorem dX5_weightOf_5 : decode cX5_weightOf 5 = .ok (.aload_n 0, 1) := by decide +kernel
theorem dX5_weightOf_6 : decode cX5_weightOf 6 = .ok (.getfield 18, 3) := by decide +kernel
theorem dX5_weightOf_9 : decode cX5_weightOf 9 = .ok (.if_icmp .ge 26, 3) := by decide +kernel
theorem dX5_weightOf_12 : decode cX5_weightOf 12 = .ok (.iload_n 1, 1) := by decide +kernel
theorem dX5_weightOf_13 : decode cX5_weightOf 13 = .ok (.iload_n 3, 1) := by decide +kernel
theorem dX5_weightOf_14 : decode cX5_weightOf 14 = .ok (.ishr, 1) := by decide +kernel
theorem dX5_weightOf_15 : decode cX5_weightOf 15 = .ok (.iconst 1, 1) := by decide +kernel
theorem dX5_weightOf_16 : decode cX5_weightOf 16 = .ok (.iand, 1) := by decide +kernel
theorem dX5_weightOf_17 : decode cX5_weightOf 17 = .ok (.ifCond .eq 12, 3) := by decide +kernel
theorem dX5_weightOf_20 : decode cX5_weightOf 20 = .ok (.iload_n 2, 1) := by decide +kernel
theorem dX5_weightOf_21 : decode cX5_weightOf 21 = .ok (.aload_n 0, 1) := by decide +kernel
theorem dX5_weightOf_22 : decode cX5_weightOf 22 = .ok (.getfield 27, 3) := by decide +kernel
theorem dX5_weightOf_25 : decode cX5_weightOf 25 = .ok (.iload_n 3, 1) := by decide +kernel
theorem dX5_weightOf_26 : decode cX5_weightOf 26 = .ok (.iaload, 1) := by decide +kernel
theorem dX5_weightOf_27 : decode cX5_weightOf 27 = .ok (.iadd, 1) := by decide +kernel
theorem dX5_weightOf_28 : decode cX5_weightOf 28 = .ok (.istore_n 2, 1) := by decide +kernel
theorem dX5_weightOf_29 : decode cX5_weightOf 29 = .ok (.iinc 3 1, 3) := by decide +kernel
theorem dX5_weightOf_32 : decode cX5_weightOf 32 = .ok (.goto (-28), 3) := by decide +kernel
theorem dX5_weightOf_35 : decode cX5_weightOf 35 = .ok (.iload_n 2, 1) := by decide +kernel
theorem dX5_weightOf_36 : decode cX5_weightOf 36 = .ok (.ireturn, 1) := by decide +kernel
theorem dX5_wentOfAll_0 : decode cX5_wentOfAll 0 = .ok (.iconst 0, 1) := by decide +kernel
theorem dX5_wentOfAll_1 : decode cX5_wentOfAll 1 = .ok (.istore_n 1, 1) := by decide +kernel
theorem dX5_wentOfAll_2 : decode cX5_wentOfAll 2 = .ok (.iconst 0, 1) := by decide +kernel
theorem dX5_wentOfAll_3 : decode cX5_wentOfAll 3 = .ok (.istore_n 2, 1) := by decide +kernel
theorem dX5_wentOfAll_4 : decode cX5_wentOfAll 4 = .ok (.iload_n 2, 1) := by decide +kernel
theorem dX5_wentOfAll_5 : decode cX5_wentOfAll 5 = .ok (.aload_n 0, 1) := by decide +kernel
theorem dX5_wentOfAll_6 : decode cX5_wentOfAll 6 = .ok (.getfield 21, 3) := by decide +kernel
theorem dX5_wentOfAll_9 : decode cX5_wentOfAll 9 = .ok (.if_icmp .ge 18, 3) := by decide +kernel
theorem dX5_wentOfAll_12 : decode cX5_wentOfAll 12 = .ok (.iload_n 1, 1) := by decide +kernel
theorem dX5_wentOfAll_13 : decode cX5_wentOfAll 13 = .ok (.aload_n 0, 1) := by decide +kernel
theorem dX5_wentOfAll_14 : decode cX5_wentOfAll 14 = .ok (.getfield 52, 3) := by decide +kernel
theorem dX5_wentOfAll_17 : decode cX5_wentOfAll 17 = .ok (.iload_n 2, 1) := by decide +kernel
theorem dX5_wentOfAll_18 : decode cX5_wentOfAll 18 = .ok (.iaload, 1) := by decide +kernel
theorem dX5_wentOfAll_19 : decode cX5_wentOfAll 19 = .ok (.iadd, 1) := by decide +kernel
theorem dX5_wentOfAll_20 : decode cX5_wentOfAll 20 = .ok (.istore_n 1, 1) := by decide +kernel
theorem dX5_wentOfAll_21 : decode cX5_wentOfAll 21 = .ok (.iinc 2 1, 3) := by decide +kernel
theorem dX5_wentOfAll_24 : decode cX5_wentOfAll 24 = .ok (.goto (-20), 3) := by decide +kernel
theorem dX5_wentOfAll_27 : decode cX5_wentOfAll 27 = .ok (.iload_n 1, 1) := by decide +kernel
theorem dX5_wentOfAll_28 : decode cX5_wentOfAll 28 = .ok (.ireturn, 1) := by decide +kernel
theorem dX5_bitsPointed_0 : decode cX5_bitsPointed 0 = .ok (.iconst 0, 1) := by decide +kernel
theorem dX5_bitsPointed_1 : decode cX5_bitsPointed 1 = .ok (.istore_n 1, 1) := by decide +kernel
theorem dX5_bitsPointed_2 : decode cX5_bitsPointed 2 = .ok (.iconst 0, 1) := by decide +kernel
theorem dX5_bitsPointed_3 : decode cX5_bitsPointed 3 = .ok (.istore_n 2, 1) := by decide +kernel
theorem dX5_bitsPointed_4 : decode cX5_bitsPointed 4 = .ok (.iload_n 2, 1) := by decide +kernel
theorem dX5_bitsPointed_5 : decode cX5_bitsPointed 5 = .ok (.aload_n 0, 1) := by decide +kernel
theorem dX5_bitsPointed_6 : decode cX5_bitsPointed 6 = .ok (.getfield 21, 3) := by decide +kernel
theorem dX5_bitsPointed_9 : decode cX5_bitsPointed 9 = .ok (.if_icmp .ge 35, 3) := by decide +kernel
theorem dX5_bitsPointed_12 : decode cX5_bitsPointed 12 = .ok (.aload_n 0, 1) := by decide +kernel
theorem dX5_bitsPointed_13 : decode cX5_bitsPointed 13 = .ok (.getfield 37, 3) := by decide +kernel
theorem dX5_bitsPointed_16 : decode cX5_bitsPointed 16 = .ok (.iload_n 2, 1) := by decide +kernel
theorem dX5_bitsPointed_17 : decode cX5_bitsPointed 17 = .ok (.iaload, 1) := by decide +kernel
theorem dX5_bitsPointed_18 : decode cX5_bitsPointed 18 = .ok (.iconst 1, 1) := by decide +kernel
theorem dX5_bitsPointed_19 : decode cX5_bitsPointed 19 = .ok (.if_icmp .eq 13, 3) := by decide +kernel
theorem dX5_bitsPointed_22 : decode cX5_bitsPointed 22 = .ok (.aload_n 0, 1) := by decide +kernel
theorem dX5_bitsPointed_23 : decode cX5_bitsPointed 23 = .ok (.getfield 37, 3) := by decide +kernel
theorem dX5_bitsPointed_26 : decode cX5_bitsPointed 26 = .ok (.iload_n 2, 1) := by decide +kernel
theorem dX5_bitsPointed_27 : decode cX5_bitsPointed 27 = .ok (.iaload, 1) := by decide +kernel
theorem dX5_bitsPointed_28 : decode cX5_bitsPointed 28 = .ok (.iconst 2, 1) := by decide +kernel
theorem dX5_bitsPointed_29 : decode cX5_bitsPointed 29 = .ok (.if_icmp .ne 9, 3) := by decide +kernel
theorem dX5_bitsPointed_32 : decode cX5_bitsPointed 32 = .ok (.iload_n 1, 1) := by decide +kernel
theorem dX5_bitsPointed_33 : decode cX5_bitsPointed 33 = .ok (.iconst 1, 1) := by decide +kernel
theorem dX5_bitsPointed_34 : decode cX5_bitsPointed 34 = .ok (.iload_n 2, 1) := by decide +kernel
theorem dX5_bitsPointed_35 : decode cX5_bitsPointed 35 = .ok (.ishl, 1) := by decide +kernel
theorem dX5_bitsPointed_36 : decode cX5_bitsPointed 36 = .ok (.ior, 1) := by decide +kernel
theorem dX5_bitsPointed_37 : decode cX5_bitsPointed 37 = .ok (.istore_n 1, 1) := by decide +kernel
theorem dX5_bitsPointed_38 : decode cX5_bitsPointed 38 = .ok (.iinc 2 1, 3) := by decide +kernel
theorem dX5_bitsPointed_41 : decode cX5_bitsPointed 41 = .ok (.goto (-37), 3) := by decide +kernel
theorem dX5_bitsPointed_44 : decode cX5_bitsPointed 44 = .ok (.iload_n 1, 1) := by decide +kernel
theorem dX5_bitsPointed_45 : decode cX5_bitsPointed 45 = .ok (.ireturn, 1) := by decide +kernel
theorem dX5_swingAll_0 : decode cX5_swingAll 0 = .ok (.iconst 0, 1) := by decide +kernel
theorem dX5_swingAll_1 : decode cX5_swingAll 1 = .ok (.istore_n 2, 1) := by decide +kernel
theorem dX5_swingAll_2 : decode cX5_swingAll 2 = .ok (.iload_n 2, 1) := by decide +kernel
theorem dX5_swingAll_3 : decode cX5_swingAll 3 = .ok (.aload_n 0, 1) := by decide +kernel
theorem dX5_swingAll_4 : decode cX5_swingAll 4 = .ok (.getfield 21, 3) := by decide +kernel
theorem dX5_swingAll_7 : decode cX5_swingAll 7 = .ok (.if_icmp .ge 22, 3) := by decide +kernel
theorem dX5_swingAll_10 : decode cX5_swingAll 10 = .ok (.iload_n 1, 1) := by decide +kernel
theorem dX5_swingAll_11 : decode cX5_swingAll 11 = .ok (.iload_n 2, 1) := by decide +kernel
theorem dX5_swingAll_12 : decode cX5_swingAll 12 = .ok (.ishr, 1) := by decide +kernel
theorem dX5_swingAll_13 : decode cX5_swingAll 13 = .ok (.iconst 1, 1) := by decide +kernel
theorem dX5_swingAll_14 : decode cX5_swingAll 14 = .ok (.iand, 1) := by decide +kernel
theorem dX5_swingAll_15 : decode cX5_swingAll 15 = .ok (.ifCond .eq 8, 3) := by decide +kernel
theorem dX5_swingAll_18 : decode cX5_swingAll 18 = .ok (.aload_n 0, 1) := by decide +kernel
theorem dX5_swingAll_19 : decode cX5_swingAll 19 = .ok (.iload_n 2, 1) := by decide +kernel
theorem dX5_swingAll_20 : decode cX5_swingAll 20 = .ok (.invokevirtual 88, 3) := by decide +kernel
theorem dX5_swingAll_23 : decode cX5_swingAll 23 = .ok (.iinc 2 1, 3) := by decide +kernel
theorem dX5_swingAll_26 : decode cX5_swingAll 26 = .ok (.goto (-24), 3) := by decide +kernel
theorem dX5_swingAll_29 : decode cX5_swingAll 29 = .ok (.return_, 1) := by decide +kernel
theorem dX6_init_0 : decode cX6_init 0 = .ok (.aload_n 0, 1) := by decide +kernel
theorem dX6_init_1 : decode cX6_init 1 = .ok (.invokespecial 1, 3) := by decide +kernel
theorem dX6_init_4 : decode cX6_init 4 = .ok (.aload_n 0, 1) := by decide +kernel
theorem dX6_init_5 : decode cX6_init 5 = .ok (.new 7, 3) := by decide +kernel
theorem dX6_init_8 : decode cX6_init 8 = .ok (.dup, 1) := by decide +kernel
theorem dX6_init_9 : decode cX6_init 9 = .ok (.invokespecial 9, 3) := by decide +kernel
theorem dX6_init_12 : decode cX6_init 12 = .ok (.putfield 10, 3) := by decide +kernel
theorem dX6_init_15 : decode cX6_init 15 = .ok (.aload_n 0, 1) := by decide +kernel
theorem dX6_init_16 : decode cX6_init 16 = .ok (.new 16, 3) := by decide +kernel
theorem dX6_init_19 : decode cX6_init 19 = .ok (.dup, 1) := by decide +kernel
theorem dX6_init_20 : decode cX6_init 20 = .ok (.invokespecial 18, 3) := by decide +kernel
theorem dX6_init_23 : decode cX6_init 23 = .ok (.putfield 19, 3) := by decide +kernel
theorem dX6_init_26 : decode cX6_init 26 = .ok (.aload_n 0, 1) := by decide +kernel
theorem dX6_init_27 : decode cX6_init 27 = .ok (.new 23, 3) := by decide +kernel
theorem dX6_init_30 : decode cX6_init 30 = .ok (.dup, 1) := by decide +kernel
theorem dX6_init_31 : decode cX6_init 31 = .ok (.invokespecial 25, 3) := by decide +kernel
theorem dX6_init_34 : decode cX6_init 34 = .ok (.putfield 26, 3) := by decide +kernel
theorem dX6_init_37 : decode cX6_init 37 = .ok (.aload_n 0, 1) := by decide +kernel
theorem dX6_init_38 : decode cX6_init 38 = .ok (.new 23, 3) := by decide +kernel
theorem dX6_init_41 : decode cX6_init 41 = .ok (.dup, 1) := by decide +kernel
theorem dX6_init_42 : decode cX6_init 42 = .ok (.invokespecial 25, 3) := by decide +kernel
theorem dX6_init_45 : decode cX6_init 45 = .ok (.putfield 30, 3) := by decide +kernel
theorem dX6_init_48 : decode cX6_init 48 = .ok (.aload_n 0, 1) := by decide +kernel
theorem dX6_init_49 : decode cX6_init 49 = .ok (.new 33, 3) := by decide +kernel
theorem dX6_init_52 : decode cX6_init 52 = .ok (.dup, 1) := by decide +kernel
theorem dX6_init_53 : decode cX6_init 53 = .ok (.invokespecial 35, 3) := by decide +kernel
theorem dX6_init_56 : decode cX6_init 56 = .ok (.putfield 36, 3) := by decide +kernel
theorem dX6_init_59 : decode cX6_init 59 = .ok (.aload_n 0, 1) := by decide +kernel
theorem dX6_init_60 : decode cX6_init 60 = .ok (.new 40, 3) := by decide +kernel
theorem dX6_init_63 : decode cX6_init 63 = .ok (.dup, 1) := by decide +kernel
theorem dX6_init_64 : decode cX6_init 64 = .ok (.invokespecial 42, 3) := by decide +kernel
theorem dX6_init_67 : decode cX6_init 67 = .ok (.putfield 43, 3) := by decide +kernel
theorem dX6_init_70 : decode cX6_init 70 = .ok (.aload_n 0, 1) := by decide +kernel
theorem dX6_init_71 : decode cX6_init 71 = .ok (.new 47, 3) := by decide +kernel
theorem dX6_init_74 : decode cX6_init 74 = .ok (.dup, 1) := by decide +kernel
theorem dX6_init_75 : decode cX6_init 75 = .ok (.invokespecial 49, 3) := by decide +kernel
theorem dX6_init_78 : decode cX6_init 78 = .ok (.putfield 50, 3) := by decide +kernel
theorem dX6_init_81 : decode cX6_init 81 = .ok (.aload_n 0, 1) := by decide +kernel
theorem dX6_init_82 : decode cX6_init 82 = .ok (.iconst 2, 1) := by decide +kernel
theorem dX6_init_83 : decode cX6_init 83 = .ok (.anewarray 23, 3) := by decide +kernel
theorem dX6_init_86 : decode cX6_init 86 = .ok (.dup, 1) := by decide +kernel
theorem dX6_init_87 : decode cX6_init 87 = .ok (.iconst 0, 1) := by decide +kernel
theorem dX6_init_88 : decode cX6_init 88 = .ok (.new 23, 3) := by decide +kernel
theorem dX6_init_91 : decode cX6_init 91 = .ok (.dup, 1) := by decide +kernel
theorem dX6_init_92 : decode cX6_init 92 = .ok (.invokespecial 25, 3) := by decide +kernel
theorem dX6_init_95 : decode cX6_init 95 = .ok (.aastore, 1) := by decide +kernel
theorem dX6_init_96 : decode cX6_init 96 = .ok (.dup, 1) := by decide +kernel
theorem dX6_init_97 : decode cX6_init 97 = .ok (.iconst 1, 1) := by decide +kernel
theorem dX6_init_98 : decode cX6_init 98 = .ok (.new 23, 3) := by decide +kernel
theorem dX6_init_101 : decode cX6_init 101 = .ok (.dup, 1) := by decide +kernel
theorem dX6_init_102 : decode cX6_init 102 = .ok (.invokespecial 25, 3) := by decide +kernel
theorem dX6_init_105 : decode cX6_init 105 = .ok (.aastore, 1) := by decide +kernel
theorem dX6_init_106 : decode cX6_init 106 = .ok (.putfield 54, 3) := by decide +kernel
theorem dX6_init_109 : decode cX6_init 109 = .ok (.aload_n 0, 1) := by decide +kernel
theorem dX6_init_110 : decode cX6_init 110 = .ok (.iconst 0, 1) := by decide +kernel
theorem dX6_init_111 : decode cX6_init 111 = .ok (.putfield 58, 3) := by decide +kernel
theorem dX6_init_114 : decode cX6_init 114 = .ok (.aload_n 0, 1) := by decide +kernel
theorem dX6_init_115 : decode cX6_init 115 = .ok (.iconst 0, 1) := by decide +kernel
theorem dX6_init_116 : decode cX6_init 116 = .ok (.putfield 62, 3) := by decide +kernel
theorem dX6_init_119 : decode cX6_init 119 = .ok (.return_, 1) := by decide +kernel
theorem dX6_row_0 : decode cX6_row 0 = .ok (.iload_n 1, 1) := by decide +kernel
theorem dX6_row_1 : decode cX6_row 1 = .ok (.invokestatic 65, 3) := by decide +kernel
theorem dX6_row_4 : decode cX6_row 4 = .ok (.ifCond .ne 18, 3) := by decide +kernel
theorem dX6_row_7 : decode cX6_row 7 = .ok (.iload_n 2, 1) := by decide +kernel
theorem dX6_row_8 : decode cX6_row 8 = .ok (.ifCond .lt 14, 3) := by decide +kernel
theorem dX6_row_11 : decode cX6_row 11 = .ok (.iload_n 2, 1) := by decide +kernel
theorem dX6_row_12 : decode cX6_row 12 = .ok (.iconst 2, 1) := by decide +kernel
theorem dX6_row_13 : decode cX6_row 13 = .ok (.if_icmp .gt 9, 3) := by decide +kernel
theorem dX6_row_16 : decode cX6_row 16 = .ok (.iload_n 3, 1) := by decide +kernel
theorem dX6_row_17 : decode cX6_row 17 = .ok (.bipush 40, 2) := by decide +kernel
theorem dX6_row_19 : decode cX6_row 19 = .ok (.if_icmp .le 6, 3) := by decide +kernel
theorem dX6_row_22 : decode cX6_row 22 = .ok (.ldc 69, 2) := by decide +kernel
theorem dX6_row_24 : decode cX6_row 24 = .ok (.ireturn, 1) := by decide +kernel
theorem dX6_row_25 : decode cX6_row 25 = .ok (.iload_n 3, 1) := by decide +kernel
theorem dX6_row_26 : decode cX6_row 26 = .ok (.ifCond .ge 9, 3) := by decide +kernel
theorem dX6_row_29 : decode cX6_row 29 = .ok (.aload_n 0, 1) := by decide +kernel
theorem dX6_row_30 : decode cX6_row 30 = .ok (.iconst 4, 1) := by decide +kernel
theorem dX6_row_31 : decode cX6_row 31 = .ok (.invokevirtual 70, 3) := by decide +kernel
theorem dX6_row_34 : decode cX6_row 34 = .ok (.ireturn, 1) := by decide +kernel
theorem dX6_row_35 : decode cX6_row 35 = .ok (.aload_n 0, 1) := by decide +kernel
theorem dX6_row_36 : decode cX6_row 36 = .ok (.getfield 10, 3) := by decide +kernel
theorem dX6_row_39 : decode cX6_row 39 = .ok (.iload_n 1, 1) := by decide +kernel
theorem dX6_row_40 : decode cX6_row 40 = .ok (.iload_n 2, 1) := by decide +kernel
theorem dX6_row_41 : decode cX6_row 41 = .ok (.iload_n 3, 1) := by decide +kernel
theorem dX6_row_42 : decode cX6_row 42 = .ok (.invokevirtual 74, 3) := by decide +kernel
theorem dX6_row_45 : decode cX6_row 45 = .ok (.aload_n 0, 1) := by decide +kernel
theorem dX6_row_46 : decode cX6_row 46 = .ok (.iload_n 3, 1) := by decide +kernel
theorem dX6_row_47 : decode cX6_row 47 = .ok (.invokevirtual 78, 3) := by decide +kernel
theorem dX6_row_50 : decode cX6_row 50 = .ok (.ireturn, 1) := by decide +kernel
theorem dX6_set_0 : decode cX6_set 0 = .ok (.iload_n 1, 1) := by decide +kernel
theorem dX6_set_1 : decode cX6_set 1 = .ok (.invokestatic 65, 3) := by decide +kernel
theorem dX6_set_4 : decode cX6_set 4 = .ok (.ifCond .eq 6, 3) := by decide +kernel
theorem dX6_set_7 : decode cX6_set 7 = .ok (.ldc 69, 2) := by decide +kernel
theorem dX6_set_9 : decode cX6_set 9 = .ok (.ireturn, 1) := by decide +kernel
theorem dX6_set_10 : decode cX6_set 10 = .ok (.aload_n 0, 1) := by decide +kernel
theorem dX6_set_11 : decode cX6_set 11 = .ok (.iload_n 1, 1) := by decide +kernel
theorem dX6_set_12 : decode cX6_set 12 = .ok (.iload_n 2, 1) := by decide +kernel
theorem dX6_set_13 : decode cX6_set 13 = .ok (.iconst 1, 1) := by decide +kernel
theorem dX6_set_14 : decode cX6_set 14 = .ok (.invokevirtual 81, 3) := by decide +kernel
theorem dX6_set_17 : decode cX6_set 17 = .ok (.istore 4, 2) := by decide +kernel
theorem dX6_set_19 : decode cX6_set 19 = .ok (.iload 4, 2) := by decide +kernel
theorem dX6_set_21 : decode cX6_set 21 = .ok (.ifCond .ne 20, 3) := by decide +kernel
theorem dX6_set_24 : decode cX6_set 24 = .ok (.aload_n 0, 1) := by decide +kernel
theorem dX6_set_25 : decode cX6_set 25 = .ok (.aload_n 0, 1) := by decide +kernel
theorem dX6_set_26 : decode cX6_set 26 = .ok (.getfield 10, 3) := by decide +kernel
theorem dX6_set_29 : decode cX6_set 29 = .ok (.iload_n 1, 1) := by decide +kernel
theorem dX6_set_30 : decode cX6_set 30 = .ok (.iload_n 2, 1) := by decide +kernel
theorem dX6_set_31 : decode cX6_set 31 = .ok (.iload_n 3, 1) := by decide +kernel
theorem dX6_set_32 : decode cX6_set 32 = .ok (.invokevirtual 85, 3) := by decide +kernel
theorem dX6_set_35 : decode cX6_set 35 = .ok (.invokevirtual 78, 3) := by decide +kernel
theorem dX6_set_38 : decode cX6_set 38 = .ok (.goto 9, 3) := by decide +kernel
theorem dX6_set_41 : decode cX6_set 41 = .ok (.aload_n 0, 1) := by decide +kernel
theorem dX6_set_42 : decode cX6_set 42 = .ok (.iload 4, 2) := by decide +kernel
theorem dX6_set_44 : decode cX6_set 44 = .ok (.invokevirtual 70, 3) := by decide +kernel
theorem dX6_set_47 : decode cX6_set 47 = .ok (.ireturn, 1) := by decide +kernel
theorem dX6_copy_0 : decode cX6_copy 0 = .ok (.iload_n 1, 1) := by decide +kernel
theorem dX6_copy_1 : decode cX6_copy 1 = .ok (.invokestatic 65, 3) := by decide +kernel
theorem dX6_copy_4 : decode cX6_copy 4 = .ok (.ifCond .ne 10, 3) := by decide +kernel
theorem dX6_copy_7 : decode cX6_copy 7 = .ok (.iload_n 3, 1) := by decide +kernel
theorem dX6_copy_8 : decode cX6_copy 8 = .ok (.invokestatic 65, 3) := by decide +kernel
theorem dX6_copy_11 : decode cX6_copy 11 = .ok (.ifCond .eq 6, 3) := by decide +kernel
theorem dX6_copy_14 : decode cX6_copy 14 = .ok (.ldc 69, 2) := by decide +kernel
theorem dX6_copy_16 : decode cX6_copy 16 = .ok (.ireturn, 1) := by decide +kernel
theorem dX6_copy_17 : decode cX6_copy 17 = .ok (.aload_n 0, 1) := by decide +kernel
theorem dX6_copy_18 : decode cX6_copy 18 = .ok (.getfield 10, 3) := by decide +kernel
theorem dX6_copy_21 : decode cX6_copy 21 = .ok (.iload_n 1, 1) := by decide +kernel
theorem dX6_copy_22 : decode cX6_copy 22 = .ok (.invokevirtual 88, 3) := by decide +kernel
theorem dX6_copy_25 : decode cX6_copy 25 = .ok (.ifCond .ne 14, 3) := by decide +kernel
theorem dX6_copy_28 : decode cX6_copy 28 = .ok (.aload_n 0, 1) := by decide +kernel
theorem dX6_copy_29 : decode cX6_copy 29 = .ok (.getfield 10, 3) := by decide +kernel
theorem dX6_copy_32 : decode cX6_copy 32 = .ok (.iload_n 3, 1) := by decide +kernel
theorem dX6_copy_33 : decode cX6_copy 33 = .ok (.invokevirtual 88, 3) := by decide +kernel
theorem dX6_copy_36 : decode cX6_copy 36 = .ok (.ifCond .eq 9, 3) := by decide +kernel
theorem dX6_copy_39 : decode cX6_copy 39 = .ok (.aload_n 0, 1) := by decide +kernel
theorem dX6_copy_40 : decode cX6_copy 40 = .ok (.iconst 1, 1) := by decide +kernel
theorem dX6_copy_41 : decode cX6_copy 41 = .ok (.invokevirtual 70, 3) := by decide +kernel
theorem dX6_copy_44 : decode cX6_copy 44 = .ok (.ireturn, 1) := by decide +kernel
theorem dX6_copy_45 : decode cX6_copy 45 = .ok (.aload_n 0, 1) := by decide +kernel
theorem dX6_copy_46 : decode cX6_copy 46 = .ok (.getfield 10, 3) := by decide +kernel
theorem dX6_copy_49 : decode cX6_copy 49 = .ok (.iload_n 1, 1) := by decide +kernel
theorem dX6_copy_50 : decode cX6_copy 50 = .ok (.invokevirtual 91, 3) := by decide +kernel
theorem dX6_copy_53 : decode cX6_copy 53 = .ok (.aload_n 0, 1) := by decide +kernel
theorem dX6_copy_54 : decode cX6_copy 54 = .ok (.getfield 10, 3) := by decide +kernel
theorem dX6_copy_57 : decode cX6_copy 57 = .ok (.iload_n 3, 1) := by decide +kernel
theorem dX6_copy_58 : decode cX6_copy 58 = .ok (.invokevirtual 91, 3) := by decide +kernel
theorem dX6_copy_61 : decode cX6_copy 61 = .ok (.if_icmp .eq 9, 3) := by decide +kernel
theorem dX6_copy_64 : decode cX6_copy 64 = .ok (.aload_n 0, 1) := by decide +kernel
theorem dX6_copy_65 : decode cX6_copy 65 = .ok (.iconst 5, 1) := by decide +kernel
theorem dX6_copy_66 : decode cX6_copy 66 = .ok (.invokevirtual 70, 3) := by decide +kernel
theorem dX6_copy_69 : decode cX6_copy 69 = .ok (.ireturn, 1) := by decide +kernel
theorem dX6_copy_70 : decode cX6_copy 70 = .ok (.aload_n 0, 1) := by decide +kernel
theorem dX6_copy_71 : decode cX6_copy 71 = .ok (.getfield 10, 3) := by decide +kernel
theorem dX6_copy_74 : decode cX6_copy 74 = .ok (.iload_n 1, 1) := by decide +kernel
theorem dX6_copy_75 : decode cX6_copy 75 = .ok (.iload_n 2, 1) := by decide +kernel
theorem dX6_copy_76 : decode cX6_copy 76 = .ok (.iload 5, 2) := by decide +kernel
theorem dX6_copy_78 : decode cX6_copy 78 = .ok (.invokevirtual 94, 3) := by decide +kernel
theorem dX6_copy_81 : decode cX6_copy 81 = .ok (.ifCond .eq 18, 3) := by decide +kernel
theorem dX6_copy_84 : decode cX6_copy 84 = .ok (.aload_n 0, 1) := by decide +kernel
theorem dX6_copy_85 : decode cX6_copy 85 = .ok (.getfield 10, 3) := by decide +kernel
theorem dX6_copy_88 : decode cX6_copy 88 = .ok (.iload_n 3, 1) := by decide +kernel
theorem dX6_copy_89 : decode cX6_copy 89 = .ok (.iload 4, 2) := by decide +kernel
theorem dX6_copy_91 : decode cX6_copy 91 = .ok (.iload 5, 2) := by decide +kernel
theorem dX6_copy_93 : decode cX6_copy 93 = .ok (.invokevirtual 94, 3) := by decide +kernel
theorem dX6_copy_96 : decode cX6_copy 96 = .ok (.ifCond .ne 9, 3) := by decide +kernel
theorem dX6_copy_99 : decode cX6_copy 99 = .ok (.aload_n 0, 1) := by decide +kernel
theorem dX6_copy_100 : decode cX6_copy 100 = .ok (.iconst 2, 1) := by decide +kernel
theorem dX6_copy_101 : decode cX6_copy 101 = .ok (.invokevirtual 70, 3) := by decide +kernel
theorem dX6_copy_104 : decode cX6_copy 104 = .ok (.ireturn, 1) := by decide +kernel
theorem dX6_copy_105 : decode cX6_copy 105 = .ok (.aload_n 0, 1) := by decide +kernel
theorem dX6_copy_106 : decode cX6_copy 106 = .ok (.getfield 10, 3) := by decide +kernel
theorem dX6_copy_109 : decode cX6_copy 109 = .ok (.iload_n 1, 1) := by decide +kernel
theorem dX6_copy_110 : decode cX6_copy 110 = .ok (.iload_n 2, 1) := by decide +kernel
theorem dX6_copy_111 : decode cX6_copy 111 = .ok (.iload_n 3, 1) := by decide +kernel
theorem dX6_copy_112 : decode cX6_copy 112 = .ok (.iload 4, 2) := by decide +kernel
theorem dX6_copy_114 : decode cX6_copy 114 = .ok (.iload 5, 2) := by decide +kernel
theorem dX6_copy_116 : decode cX6_copy 116 = .ok (.invokevirtual 98, 3) := by decide +kernel
theorem dX6_copy_119 : decode cX6_copy 119 = .ok (.aload_n 0, 1) := by decide +kernel
theorem dX6_copy_120 : decode cX6_copy 120 = .ok (.iload 5, 2) := by decide +kernel
theorem dX6_copy_122 : decode cX6_copy 122 = .ok (.invokevirtual 78, 3) := by decide +kernel
theorem dX6_copy_125 : decode cX6_copy 125 = .ok (.ireturn, 1) := by decide +kernel
theorem dX6_drop_0 : decode cX6_drop 0 = .ok (.iload_n 1, 1) := by decide +kernel
theorem dX6_drop_1 : decode cX6_drop 1 = .ok (.invokestatic 65, 3) := by decide +kernel
theorem dX6_drop_4 : decode cX6_drop 4 = .ok (.ifCond .eq 6, 3) := by decide +kernel
theorem dX6_drop_7 : decode cX6_drop 7 = .ok (.ldc 69, 2) := by decide +kernel
theorem dX6_drop_9 : decode cX6_drop 9 = .ok (.ireturn, 1) := by decide +kernel
theorem dX6_drop_10 : decode cX6_drop 10 = .ok (.aload_n 0, 1) := by decide +kernel
theorem dX6_drop_11 : decode cX6_drop 11 = .ok (.getfield 10, 3) := by decide +kernel
theorem dX6_drop_14 : decode cX6_drop 14 = .ok (.iload_n 1, 1) := by decide +kernel
theorem dX6_drop_15 : decode cX6_drop 15 = .ok (.invokevirtual 88, 3) := by decide +kernel
theorem dX6_drop_18 : decode cX6_drop 18 = .ok (.ifCond .eq 9, 3) := by decide +kernel
theorem dX6_drop_21 : decode cX6_drop 21 = .ok (.aload_n 0, 1) := by decide +kernel
theorem dX6_drop_22 : decode cX6_drop 22 = .ok (.iconst 1, 1) := by decide +kernel
theorem dX6_drop_23 : decode cX6_drop 23 = .ok (.invokevirtual 70, 3) := by decide +kernel
theorem dX6_drop_26 : decode cX6_drop 26 = .ok (.ireturn, 1) := by decide +kernel
theorem dX6_drop_27 : decode cX6_drop 27 = .ok (.aload_n 0, 1) := by decide +kernel
theorem dX6_drop_28 : decode cX6_drop 28 = .ok (.aload_n 0, 1) := by decide +kernel
theorem dX6_drop_29 : decode cX6_drop 29 = .ok (.getfield 10, 3) := by decide +kernel
theorem dX6_drop_32 : decode cX6_drop 32 = .ok (.iload_n 1, 1) := by decide +kernel
theorem dX6_drop_33 : decode cX6_drop 33 = .ok (.invokevirtual 102, 3) := by decide +kernel
theorem dX6_drop_36 : decode cX6_drop 36 = .ok (.invokevirtual 78, 3) := by decide +kernel
theorem dX6_drop_39 : decode cX6_drop 39 = .ok (.ireturn, 1) := by decide +kernel
theorem dX6_feed_0 : decode cX6_feed 0 = .ok (.iload_n 1, 1) := by decide +kernel
theorem dX6_feed_1 : decode cX6_feed 1 = .ok (.ifCond .lt 10, 3) := by decide +kernel
theorem dX6_feed_4 : decode cX6_feed 4 = .ok (.iload_n 1, 1) := by decide +kernel
theorem dX6_feed_5 : decode cX6_feed 5 = .ok (.sipush 255, 3) := by decide +kernel
theorem dX6_feed_8 : decode cX6_feed 8 = .ok (.if_icmp .le 6, 3) := by decide +kernel
theorem dX6_feed_11 : decode cX6_feed 11 = .ok (.ldc 69, 2) := by decide +kernel
theorem dX6_feed_13 : decode cX6_feed 13 = .ok (.ireturn, 1) := by decide +kernel
theorem dX6_feed_14 : decode cX6_feed 14 = .ok (.aload_n 0, 1) := by decide +kernel
theorem dX6_feed_15 : decode cX6_feed 15 = .ok (.getfield 19, 3) := by decide +kernel
theorem dX6_feed_18 : decode cX6_feed 18 = .ok (.iload_n 1, 1) := by decide +kernel
theorem dX6_feed_19 : decode cX6_feed 19 = .ok (.invokevirtual 105, 3) := by decide +kernel
theorem dX6_feed_22 : decode cX6_feed 22 = .ok (.ifCond .eq 13, 3) := by decide +kernel
theorem dX6_feed_25 : decode cX6_feed 25 = .ok (.aload_n 0, 1) := by decide +kernel
theorem dX6_feed_26 : decode cX6_feed 26 = .ok (.getfield 19, 3) := by decide +kernel
theorem dX6_feed_29 : decode cX6_feed 29 = .ok (.invokevirtual 108, 3) := by decide +kernel
theorem dX6_feed_32 : decode cX6_feed 32 = .ok (.goto 5, 3) := by decide +kernel
theorem dX6_feed_35 : decode cX6_feed 35 = .ok (.ldc 112, 2) := by decide +kernel
theorem dX6_feed_37 : decode cX6_feed 37 = .ok (.ireturn, 1) := by decide +kernel
theorem dX6_run_0 : decode cX6_run 0 = .ok (.aload_n 0, 1) := by decide +kernel
theorem dX6_run_1 : decode cX6_run 1 = .ok (.getfield 19, 3) := by decide +kernel
theorem dX6_run_4 : decode cX6_run 4 = .ok (.aload_n 0, 1) := by decide +kernel
theorem dX6_run_5 : decode cX6_run 5 = .ok (.getfield 30, 3) := by decide +kernel
theorem dX6_run_8 : decode cX6_run 8 = .ok (.invokevirtual 113, 3) := by decide +kernel
theorem dX6_run_11 : decode cX6_run 11 = .ok (.istore_n 1, 1) := by decide +kernel
theorem dX6_run_12 : decode cX6_run 12 = .ok (.aload_n 0, 1) := by decide +kernel
theorem dX6_run_13 : decode cX6_run 13 = .ok (.getfield 19, 3) := by decide +kernel
theorem dX6_run_16 : decode cX6_run 16 = .ok (.invokevirtual 117, 3) := by decide +kernel
theorem dX6_run_19 : decode cX6_run 19 = .ok (.iload_n 1, 1) := by decide +kernel
theorem dX6_run_20 : decode cX6_run 20 = .ok (.ifCond .ne 25, 3) := by decide +kernel
theorem dX6_run_23 : decode cX6_run 23 = .ok (.aload_n 0, 1) := by decide +kernel
theorem dX6_run_24 : decode cX6_run 24 = .ok (.aload_n 0, 1) := by decide +kernel
theorem dX6_run_25 : decode cX6_run 25 = .ok (.getfield 19, 3) := by decide +kernel
theorem dX6_run_28 : decode cX6_run 28 = .ok (.invokevirtual 120, 3) := by decide +kernel
theorem dX6_run_31 : decode cX6_run 31 = .ok (.putfield 58, 3) := by decide +kernel
theorem dX6_run_34 : decode cX6_run 34 = .ok (.ldc 123, 2) := by decide +kernel
theorem dX6_run_36 : decode cX6_run 36 = .ok (.aload_n 0, 1) := by decide +kernel
theorem dX6_run_37 : decode cX6_run 37 = .ok (.getfield 19, 3) := by decide +kernel
theorem dX6_run_40 : decode cX6_run 40 = .ok (.invokevirtual 124, 3) := by decide +kernel
theorem dX6_run_43 : decode cX6_run 43 = .ok (.isub, 1) := by decide +kernel
theorem dX6_run_44 : decode cX6_run 44 = .ok (.ireturn, 1) := by decide +kernel
theorem dX6_run_45 : decode cX6_run 45 = .ok (.aload_n 0, 1) := by decide +kernel
theorem dX6_run_46 : decode cX6_run 46 = .ok (.getfield 26, 3) := by decide +kernel
theorem dX6_run_49 : decode cX6_run 49 = .ok (.aload_n 0, 1) := by decide +kernel
theorem dX6_run_50 : decode cX6_run 50 = .ok (.getfield 30, 3) := by decide +kernel
theorem dX6_run_53 : decode cX6_run 53 = .ok (.invokevirtual 127, 3) := by decide +kernel
theorem dX6_run_56 : decode cX6_run 56 = .ok (.aload_n 0, 1) := by decide +kernel
theorem dX6_run_57 : decode cX6_run 57 = .ok (.getfield 36, 3) := by decide +kernel
theorem dX6_run_60 : decode cX6_run 60 = .ok (.invokevirtual 131, 3) := by decide +kernel
theorem dX6_run_63 : decode cX6_run 63 = .ok (.aload_n 0, 1) := by decide +kernel
theorem dX6_run_64 : decode cX6_run 64 = .ok (.getfield 26, 3) := by decide +kernel
theorem dX6_run_67 : decode cX6_run 67 = .ok (.getfield 134, 3) := by decide +kernel
theorem dX6_run_70 : decode cX6_run 70 = .ok (.ireturn, 1) := by decide +kernel
theorem dX6_fault_0 : decode cX6_fault 0 = .ok (.aload_n 0, 1) := by decide +kernel
theorem dX6_fault_1 : decode cX6_fault 1 = .ok (.getfield 58, 3) := by decide +kernel
theorem dX6_fault_4 : decode cX6_fault 4 = .ok (.ireturn, 1) := by decide +kernel
theorem dX6_undo_0 : decode cX6_undo 0 = .ok (.aload_n 0, 1) := by decide +kernel
theorem dX6_undo_1 : decode cX6_undo 1 = .ok (.getfield 36, 3) := by decide +kernel
theorem dX6_undo_4 : decode cX6_undo 4 = .ok (.aload_n 0, 1) := by decide +kernel
theorem dX6_undo_5 : decode cX6_undo 5 = .ok (.getfield 26, 3) := by decide +kernel
theorem dX6_undo_8 : decode cX6_undo 8 = .ok (.invokevirtual 137, 3) := by decide +kernel
theorem dX6_undo_11 : decode cX6_undo 11 = .ok (.ifCond .eq 13, 3) := by decide +kernel
theorem dX6_undo_14 : decode cX6_undo 14 = .ok (.aload_n 0, 1) := by decide +kernel
theorem dX6_undo_15 : decode cX6_undo 15 = .ok (.getfield 36, 3) := by decide +kernel
theorem dX6_undo_18 : decode cX6_undo 18 = .ok (.invokevirtual 140, 3) := by decide +kernel
theorem dX6_undo_21 : decode cX6_undo 21 = .ok (.goto 5, 3) := by decide +kernel
theorem dX6_undo_24 : decode cX6_undo 24 = .ok (.ldc 143, 2) := by decide +kernel
theorem dX6_undo_26 : decode cX6_undo 26 = .ok (.ireturn, 1) := by decide +kernel
theorem dX6_ticks_0 : decode cX6_ticks 0 = .ok (.aload_n 0, 1) := by decide +kernel
theorem dX6_ticks_1 : decode cX6_ticks 1 = .ok (.invokevirtual 144, 3) := by decide +kernel
theorem dX6_ticks_4 : decode cX6_ticks 4 = .ok (.ifCond .eq 6, 3) := by decide +kernel
theorem dX6_ticks_7 : decode cX6_ticks 7 = .ok (.ldc 143, 2) := by decide +kernel
theorem dX6_ticks_9 : decode cX6_ticks 9 = .ok (.ireturn, 1) := by decide +kernel
theorem dX6_ticks_10 : decode cX6_ticks 10 = .ok (.iload_n 1, 1) := by decide +kernel
theorem dX6_ticks_11 : decode cX6_ticks 11 = .ok (.iconst 1, 1) := by decide +kernel
theorem dX6_ticks_12 : decode cX6_ticks 12 = .ok (.if_icmp .lt 9, 3) := by decide +kernel
theorem dX6_ticks_15 : decode cX6_ticks 15 = .ok (.iload_n 1, 1) := by decide +kernel
theorem dX6_ticks_16 : decode cX6_ticks 16 = .ok (.bipush 24, 2) := by decide +kernel
theorem dX6_ticks_18 : decode cX6_ticks 18 = .ok (.if_icmp .le 6, 3) := by decide +kernel
theorem dX6_ticks_21 : decode cX6_ticks 21 = .ok (.ldc 69, 2) := by decide +kernel
theorem dX6_ticks_23 : decode cX6_ticks 23 = .ok (.ireturn, 1) := by decide +kernel
theorem dX6_ticks_24 : decode cX6_ticks 24 = .ok (.aload_n 0, 1) := by decide +kernel
theorem dX6_ticks_25 : decode cX6_ticks 25 = .ok (.getfield 26, 3) := by decide +kernel
theorem dX6_ticks_28 : decode cX6_ticks 28 = .ok (.getfield 148, 3) := by decide +kernel
theorem dX6_ticks_31 : decode cX6_ticks 31 = .ok (.iload_n 1, 1) := by decide +kernel
theorem dX6_ticks_32 : decode cX6_ticks 32 = .ok (.iadd, 1) := by decide +kernel
theorem dX6_ticks_33 : decode cX6_ticks 33 = .ok (.sipush 999, 3) := by decide +kernel
theorem dX6_ticks_36 : decode cX6_ticks 36 = .ok (.if_icmp .le 6, 3) := by decide +kernel
theorem dX6_ticks_39 : decode cX6_ticks 39 = .ok (.ldc 112, 2) := by decide +kernel
theorem dX6_ticks_41 : decode cX6_ticks 41 = .ok (.ireturn, 1) := by decide +kernel
theorem dX6_ticks_42 : decode cX6_ticks 42 = .ok (.iconst 0, 1) := by decide +kernel
theorem dX6_ticks_43 : decode cX6_ticks 43 = .ok (.istore_n 2, 1) := by decide +kernel
theorem dX6_ticks_44 : decode cX6_ticks 44 = .ok (.iload_n 2, 1) := by decide +kernel
theorem dX6_ticks_45 : decode cX6_ticks 45 = .ok (.iload_n 1, 1) := by decide +kernel
theorem dX6_ticks_46 : decode cX6_ticks 46 = .ok (.if_icmp .ge 27, 3) := by decide +kernel
theorem dX6_ticks_49 : decode cX6_ticks 49 = .ok (.aload_n 0, 1) := by decide +kernel
theorem dX6_ticks_50 : decode cX6_ticks 50 = .ok (.getfield 36, 3) := by decide +kernel
theorem dX6_ticks_53 : decode cX6_ticks 53 = .ok (.aload_n 0, 1) := by decide +kernel
theorem dX6_ticks_54 : decode cX6_ticks 54 = .ok (.getfield 26, 3) := by decide +kernel
theorem dX6_ticks_57 : decode cX6_ticks 57 = .ok (.invokevirtual 151, 3) := by decide +kernel
theorem dX6_ticks_60 : decode cX6_ticks 60 = .ok (.aload_n 0, 1) := by decide +kernel
theorem dX6_ticks_61 : decode cX6_ticks 61 = .ok (.getfield 26, 3) := by decide +kernel
theorem dX6_ticks_64 : decode cX6_ticks 64 = .ok (.invokevirtual 154, 3) := by decide +kernel
theorem dX6_ticks_67 : decode cX6_ticks 67 = .ok (.iinc 2 1, 3) := by decide +kernel
theorem dX6_ticks_70 : decode cX6_ticks 70 = .ok (.goto (-26), 3) := by decide +kernel
theorem dX6_ticks_73 : decode cX6_ticks 73 = .ok (.aload_n 0, 1) := by decide +kernel
theorem dX6_ticks_74 : decode cX6_ticks 74 = .ok (.getfield 26, 3) := by decide +kernel
theorem dX6_ticks_77 : decode cX6_ticks 77 = .ok (.bipush 9, 2) := by decide +kernel
theorem dX6_ticks_79 : decode cX6_ticks 79 = .ok (.invokevirtual 157, 3) := by decide +kernel
theorem dX6_ticks_82 : decode cX6_ticks 82 = .ok (.ireturn, 1) := by decide +kernel
theorem dX6_tip_0 : decode cX6_tip 0 = .ok (.aload_n 0, 1) := by decide +kernel
theorem dX6_tip_1 : decode cX6_tip 1 = .ok (.iload_n 1, 1) := by decide +kernel
theorem dX6_tip_2 : decode cX6_tip 2 = .ok (.invokevirtual 160, 3) := by decide +kernel
theorem dX6_tip_5 : decode cX6_tip 5 = .ok (.ifCond .eq 6, 3) := by decide +kernel
theorem dX6_tip_8 : decode cX6_tip 8 = .ok (.ldc 69, 2) := by decide +kernel
theorem dX6_tip_10 : decode cX6_tip 10 = .ok (.ireturn, 1) := by decide +kernel
theorem dX6_tip_11 : decode cX6_tip 11 = .ok (.aload_n 0, 1) := by decide +kernel
theorem dX6_tip_12 : decode cX6_tip 12 = .ok (.getfield 36, 3) := by decide +kernel
theorem dX6_tip_15 : decode cX6_tip 15 = .ok (.aload_n 0, 1) := by decide +kernel
theorem dX6_tip_16 : decode cX6_tip 16 = .ok (.getfield 26, 3) := by decide +kernel
theorem dX6_tip_19 : decode cX6_tip 19 = .ok (.invokevirtual 151, 3) := by decide +kernel
theorem dX6_tip_22 : decode cX6_tip 22 = .ok (.aload_n 0, 1) := by decide +kernel
theorem dX6_tip_23 : decode cX6_tip 23 = .ok (.getfield 26, 3) := by decide +kernel
theorem dX6_tip_26 : decode cX6_tip 26 = .ok (.iload_n 1, 1) := by decide +kernel
theorem dX6_tip_27 : decode cX6_tip 27 = .ok (.invokevirtual 163, 3) := by decide +kernel
theorem dX6_tip_30 : decode cX6_tip 30 = .ok (.aload_n 0, 1) := by decide +kernel
theorem dX6_tip_31 : decode cX6_tip 31 = .ok (.getfield 26, 3) := by decide +kernel
theorem dX6_tip_34 : decode cX6_tip 34 = .ok (.getfield 167, 3) := by decide +kernel
theorem dX6_tip_37 : decode cX6_tip 37 = .ok (.iload_n 1, 1) := by decide +kernel
theorem dX6_tip_38 : decode cX6_tip 38 = .ok (.iaload, 1) := by decide +kernel
theorem dX6_tip_39 : decode cX6_tip 39 = .ok (.ireturn, 1) := by decide +kernel
theorem dX6_lead_0 : decode cX6_lead 0 = .ok (.aload_n 0, 1) := by decide +kernel
theorem dX6_lead_1 : decode cX6_lead 1 = .ok (.iload_n 1, 1) := by decide +kernel
theorem dX6_lead_2 : decode cX6_lead 2 = .ok (.invokevirtual 160, 3) := by decide +kernel
theorem dX6_lead_5 : decode cX6_lead 5 = .ok (.ifCond .ne 21, 3) := by decide +kernel
theorem dX6_lead_8 : decode cX6_lead 8 = .ok (.iload_n 2, 1) := by decide +kernel
theorem dX6_lead_9 : decode cX6_lead 9 = .ok (.invokestatic 171, 3) := by decide +kernel
theorem dX6_lead_12 : decode cX6_lead 12 = .ok (.ifCond .ne 14, 3) := by decide +kernel
theorem dX6_lead_15 : decode cX6_lead 15 = .ok (.iload_n 3, 1) := by decide +kernel
theorem dX6_lead_16 : decode cX6_lead 16 = .ok (.iload_n 1, 1) := by decide +kernel
theorem dX6_lead_17 : decode cX6_lead 17 = .ok (.if_icmp .le 9, 3) := by decide +kernel
theorem dX6_lead_20 : decode cX6_lead 20 = .ok (.iload_n 3, 1) := by decide +kernel
theorem dX6_lead_21 : decode cX6_lead 21 = .ok (.bipush 9, 2) := by decide +kernel
theorem dX6_lead_23 : decode cX6_lead 23 = .ok (.if_icmp .le 6, 3) := by decide +kernel
theorem dX6_lead_26 : decode cX6_lead 26 = .ok (.ldc 69, 2) := by decide +kernel
theorem dX6_lead_28 : decode cX6_lead 28 = .ok (.ireturn, 1) := by decide +kernel
theorem dX6_lead_29 : decode cX6_lead 29 = .ok (.aload_n 0, 1) := by decide +kernel
theorem dX6_lead_30 : decode cX6_lead 30 = .ok (.getfield 36, 3) := by decide +kernel
theorem dX6_lead_33 : decode cX6_lead 33 = .ok (.aload_n 0, 1) := by decide +kernel
theorem dX6_lead_34 : decode cX6_lead 34 = .ok (.getfield 26, 3) := by decide +kernel
theorem dX6_lead_37 : decode cX6_lead 37 = .ok (.invokevirtual 151, 3) := by decide +kernel
theorem dX6_lead_40 : decode cX6_lead 40 = .ok (.iload_n 2, 1) := by decide +kernel
theorem dX6_lead_41 : decode cX6_lead 41 = .ok (.ifCond .ne 13, 3) := by decide +kernel
theorem dX6_lead_44 : decode cX6_lead 44 = .ok (.aload_n 0, 1) := by decide +kernel
theorem dX6_lead_45 : decode cX6_lead 45 = .ok (.getfield 26, 3) := by decide +kernel
theorem dX6_lead_48 : decode cX6_lead 48 = .ok (.getfield 174, 3) := by decide +kernel
theorem dX6_lead_51 : decode cX6_lead 51 = .ok (.goto 10, 3) := by decide +kernel
theorem dX6_lead_54 : decode cX6_lead 54 = .ok (.aload_n 0, 1) := by decide +kernel
theorem dX6_lead_55 : decode cX6_lead 55 = .ok (.getfield 26, 3) := by decide +kernel
theorem dX6_lead_58 : decode cX6_lead 58 = .ok (.getfield 177, 3) := by decide +kernel
theorem dX6_lead_61 : decode cX6_lead 61 = .ok (.astore 4, 2) := by decide +kernel
theorem dX6_lead_63 : decode cX6_lead 63 = .ok (.aload 4, 2) := by decide +kernel
theorem dX6_lead_65 : decode cX6_lead 65 = .ok (.iload_n 1, 1) := by decide +kernel
theorem dX6_lead_66 : decode cX6_lead 66 = .ok (.iaload, 1) := by decide +kernel
theorem dX6_lead_67 : decode cX6_lead 67 = .ok (.istore 5, 2) := by decide +kernel
theorem dX6_lead_69 : decode cX6_lead 69 = .ok (.aload 4, 2) := by decide +kernel
theorem dX6_lead_71 : decode cX6_lead 71 = .ok (.iload_n 1, 1) := by decide +kernel
theorem dX6_lead_72 : decode cX6_lead 72 = .ok (.iload_n 3, 1) := by decide +kernel
theorem dX6_lead_73 : decode cX6_lead 73 = .ok (.iastore, 1) := by decide +kernel
theorem dX6_lead_74 : decode cX6_lead 74 = .ok (.iload 5, 2) := by decide +kernel
theorem dX6_lead_76 : decode cX6_lead 76 = .ok (.ireturn, 1) := by decide +kernel
theorem dX6_again_0 : decode cX6_again 0 = .ok (.aload_n 0, 1) := by decide +kernel
theorem dX6_again_1 : decode cX6_again 1 = .ok (.iload_n 1, 1) := by decide +kernel
theorem dX6_again_2 : decode cX6_again 2 = .ok (.invokevirtual 180, 3) := by decide +kernel
end
section
theorem dX6_again_5 : decode cX6_again 5 = .ok (.ifCond .ne 14, 3) := by decide +kernel
theorem dX6_again_8 : decode cX6_again 8 = .ok (.iload_n 2, 1) := by decide +kernel
theorem dX6_again_9 : decode cX6_again 9 = .ok (.iconst 1, 1) := by decide +kernel
theorem dX6_again_10 : decode cX6_again 10 = .ok (.if_icmp .lt 9, 3) := by decide +kernel
theorem dX6_again_13 : decode cX6_again 13 = .ok (.iload_n 2, 1) := by decide +kernel
theorem dX6_again_14 : decode cX6_again 14 = .ok (.bipush 9, 2) := by decide +kernel
theorem dX6_again_16 : decode cX6_again 16 = .ok (.if_icmp .le 6, 3) := by decide +kernel
theorem dX6_again_19 : decode cX6_again 19 = .ok (.ldc 69, 2) := by decide +kernel
theorem dX6_again_21 : decode cX6_again 21 = .ok (.ireturn, 1) := by decide +kernel
theorem dX6_again_22 : decode cX6_again 22 = .ok (.aload_n 0, 1) := by decide +kernel
theorem dX6_again_23 : decode cX6_again 23 = .ok (.getfield 26, 3) := by decide +kernel
theorem dX6_again_26 : decode cX6_again 26 = .ok (.iload_n 1, 1) := by decide +kernel
theorem dX6_again_27 : decode cX6_again 27 = .ok (.invokevirtual 183, 3) := by decide +kernel
theorem dX6_again_30 : decode cX6_again 30 = .ok (.ifCond .ne 6, 3) := by decide +kernel
theorem dX6_again_33 : decode cX6_again 33 = .ok (.ldc 143, 2) := by decide +kernel
theorem dX6_again_35 : decode cX6_again 35 = .ok (.ireturn, 1) := by decide +kernel
theorem dX6_again_36 : decode cX6_again 36 = .ok (.aload_n 0, 1) := by decide +kernel
theorem dX6_again_37 : decode cX6_again 37 = .ok (.getfield 36, 3) := by decide +kernel
theorem dX6_again_40 : decode cX6_again 40 = .ok (.aload_n 0, 1) := by decide +kernel
theorem dX6_again_41 : decode cX6_again 41 = .ok (.getfield 26, 3) := by decide +kernel
theorem dX6_again_44 : decode cX6_again 44 = .ok (.invokevirtual 151, 3) := by decide +kernel
theorem dX6_again_47 : decode cX6_again 47 = .ok (.aload_n 0, 1) := by decide +kernel
theorem dX6_again_48 : decode cX6_again 48 = .ok (.getfield 26, 3) := by decide +kernel
theorem dX6_again_51 : decode cX6_again 51 = .ok (.iload_n 1, 1) := by decide +kernel
theorem dX6_again_52 : decode cX6_again 52 = .ok (.iload_n 2, 1) := by decide +kernel
theorem dX6_again_53 : decode cX6_again 53 = .ok (.invokevirtual 186, 3) := by decide +kernel
theorem dX6_again_56 : decode cX6_again 56 = .ok (.aload_n 0, 1) := by decide +kernel
theorem dX6_again_57 : decode cX6_again 57 = .ok (.getfield 26, 3) := by decide +kernel
theorem dX6_again_60 : decode cX6_again 60 = .ok (.bipush 10, 2) := by decide +kernel
theorem dX6_again_62 : decode cX6_again 62 = .ok (.invokevirtual 157, 3) := by decide +kernel
theorem dX6_again_65 : decode cX6_again 65 = .ok (.ireturn, 1) := by decide +kernel
theorem dX6_marble_0 : decode cX6_marble 0 = .ok (.aload_n 0, 1) := by decide +kernel
theorem dX6_marble_1 : decode cX6_marble 1 = .ok (.iload_n 1, 1) := by decide +kernel
theorem dX6_marble_2 : decode cX6_marble 2 = .ok (.invokevirtual 180, 3) := by decide +kernel
theorem dX6_marble_5 : decode cX6_marble 5 = .ok (.ifCond .eq 6, 3) := by decide +kernel
theorem dX6_marble_8 : decode cX6_marble 8 = .ok (.ldc 69, 2) := by decide +kernel
theorem dX6_marble_10 : decode cX6_marble 10 = .ok (.ireturn, 1) := by decide +kernel
theorem dX6_marble_11 : decode cX6_marble 11 = .ok (.iload_n 2, 1) := by decide +kernel
theorem dX6_marble_12 : decode cX6_marble 12 = .ok (.tableswitch 58 0 2 #[28, 38, 48], 28) := by decide +kernel
theorem dX6_marble_40 : decode cX6_marble 40 = .ok (.aload_n 0, 1) := by decide +kernel
theorem dX6_marble_41 : decode cX6_marble 41 = .ok (.getfield 26, 3) := by decide +kernel
theorem dX6_marble_44 : decode cX6_marble 44 = .ok (.getfield 190, 3) := by decide +kernel
theorem dX6_marble_47 : decode cX6_marble 47 = .ok (.iload_n 1, 1) := by decide +kernel
theorem dX6_marble_48 : decode cX6_marble 48 = .ok (.iaload, 1) := by decide +kernel
theorem dX6_marble_49 : decode cX6_marble 49 = .ok (.ireturn, 1) := by decide +kernel
theorem dX6_marble_50 : decode cX6_marble 50 = .ok (.aload_n 0, 1) := by decide +kernel
theorem dX6_marble_51 : decode cX6_marble 51 = .ok (.getfield 26, 3) := by decide +kernel
theorem dX6_marble_54 : decode cX6_marble 54 = .ok (.getfield 193, 3) := by decide +kernel
theorem dX6_marble_57 : decode cX6_marble 57 = .ok (.iload_n 1, 1) := by decide +kernel
theorem dX6_marble_58 : decode cX6_marble 58 = .ok (.iaload, 1) := by decide +kernel
theorem dX6_marble_59 : decode cX6_marble 59 = .ok (.ireturn, 1) := by decide +kernel
theorem dX6_marble_60 : decode cX6_marble 60 = .ok (.aload_n 0, 1) := by decide +kernel
theorem dX6_marble_61 : decode cX6_marble 61 = .ok (.getfield 26, 3) := by decide +kernel
theorem dX6_marble_64 : decode cX6_marble 64 = .ok (.getfield 196, 3) := by decide +kernel
theorem dX6_marble_67 : decode cX6_marble 67 = .ok (.iload_n 1, 1) := by decide +kernel
theorem dX6_marble_68 : decode cX6_marble 68 = .ok (.iaload, 1) := by decide +kernel
theorem dX6_marble_69 : decode cX6_marble 69 = .ok (.ireturn, 1) := by decide +kernel
theorem dX6_marble_70 : decode cX6_marble 70 = .ok (.ldc 69, 2) := by decide +kernel
theorem dX6_marble_72 : decode cX6_marble 72 = .ok (.ireturn, 1) := by decide +kernel
theorem dX6_piece_0 : decode cX6_piece 0 = .ok (.aload_n 0, 1) := by decide +kernel
theorem dX6_piece_1 : decode cX6_piece 1 = .ok (.iload_n 1, 1) := by decide +kernel
theorem dX6_piece_2 : decode cX6_piece 2 = .ok (.invokevirtual 160, 3) := by decide +kernel
theorem dX6_piece_5 : decode cX6_piece 5 = .ok (.ifCond .eq 6, 3) := by decide +kernel
theorem dX6_piece_8 : decode cX6_piece 8 = .ok (.ldc 69, 2) := by decide +kernel
theorem dX6_piece_10 : decode cX6_piece 10 = .ok (.ireturn, 1) := by decide +kernel
theorem dX6_piece_11 : decode cX6_piece 11 = .ok (.iload_n 2, 1) := by decide +kernel
theorem dX6_piece_12 : decode cX6_piece 12 = .ok (.tableswitch 113 0 6 #[44, 54, 64, 74, 84, 94, 104], 44) := by decide +kernel
theorem dX6_piece_56 : decode cX6_piece 56 = .ok (.aload_n 0, 1) := by decide +kernel
theorem dX6_piece_57 : decode cX6_piece 57 = .ok (.getfield 26, 3) := by decide +kernel
theorem dX6_piece_60 : decode cX6_piece 60 = .ok (.getfield 167, 3) := by decide +kernel
theorem dX6_piece_63 : decode cX6_piece 63 = .ok (.iload_n 1, 1) := by decide +kernel
theorem dX6_piece_64 : decode cX6_piece 64 = .ok (.iaload, 1) := by decide +kernel
theorem dX6_piece_65 : decode cX6_piece 65 = .ok (.ireturn, 1) := by decide +kernel
theorem dX6_piece_66 : decode cX6_piece 66 = .ok (.aload_n 0, 1) := by decide +kernel
theorem dX6_piece_67 : decode cX6_piece 67 = .ok (.getfield 26, 3) := by decide +kernel
theorem dX6_piece_70 : decode cX6_piece 70 = .ok (.getfield 174, 3) := by decide +kernel
theorem dX6_piece_73 : decode cX6_piece 73 = .ok (.iload_n 1, 1) := by decide +kernel
theorem dX6_piece_74 : decode cX6_piece 74 = .ok (.iaload, 1) := by decide +kernel
theorem dX6_piece_75 : decode cX6_piece 75 = .ok (.ireturn, 1) := by decide +kernel
theorem dX6_piece_76 : decode cX6_piece 76 = .ok (.aload_n 0, 1) := by decide +kernel
theorem dX6_piece_77 : decode cX6_piece 77 = .ok (.getfield 26, 3) := by decide +kernel
theorem dX6_piece_80 : decode cX6_piece 80 = .ok (.getfield 177, 3) := by decide +kernel
theorem dX6_piece_83 : decode cX6_piece 83 = .ok (.iload_n 1, 1) := by decide +kernel
theorem dX6_piece_84 : decode cX6_piece 84 = .ok (.iaload, 1) := by decide +kernel
theorem dX6_piece_85 : decode cX6_piece 85 = .ok (.ireturn, 1) := by decide +kernel
theorem dX6_piece_86 : decode cX6_piece 86 = .ok (.aload_n 0, 1) := by decide +kernel
theorem dX6_piece_87 : decode cX6_piece 87 = .ok (.getfield 26, 3) := by decide +kernel
theorem dX6_piece_90 : decode cX6_piece 90 = .ok (.getfield 199, 3) := by decide +kernel
theorem dX6_piece_93 : decode cX6_piece 93 = .ok (.iload_n 1, 1) := by decide +kernel
theorem dX6_piece_94 : decode cX6_piece 94 = .ok (.iaload, 1) := by decide +kernel
theorem dX6_piece_95 : decode cX6_piece 95 = .ok (.ireturn, 1) := by decide +kernel
theorem dX6_piece_96 : decode cX6_piece 96 = .ok (.aload_n 0, 1) := by decide +kernel
theorem dX6_piece_97 : decode cX6_piece 97 = .ok (.getfield 26, 3) := by decide +kernel
theorem dX6_piece_100 : decode cX6_piece 100 = .ok (.getfield 202, 3) := by decide +kernel
theorem dX6_piece_103 : decode cX6_piece 103 = .ok (.iload_n 1, 1) := by decide +kernel
theorem dX6_piece_104 : decode cX6_piece 104 = .ok (.iaload, 1) := by decide +kernel
theorem dX6_piece_105 : decode cX6_piece 105 = .ok (.ireturn, 1) := by decide +kernel
theorem dX6_piece_106 : decode cX6_piece 106 = .ok (.aload_n 0, 1) := by decide +kernel
theorem dX6_piece_107 : decode cX6_piece 107 = .ok (.getfield 26, 3) := by decide +kernel
theorem dX6_piece_110 : decode cX6_piece 110 = .ok (.getfield 205, 3) := by decide +kernel
theorem dX6_piece_113 : decode cX6_piece 113 = .ok (.iload_n 1, 1) := by decide +kernel
theorem dX6_piece_114 : decode cX6_piece 114 = .ok (.iaload, 1) := by decide +kernel
theorem dX6_piece_115 : decode cX6_piece 115 = .ok (.ireturn, 1) := by decide +kernel
theorem dX6_piece_116 : decode cX6_piece 116 = .ok (.aload_n 0, 1) := by decide +kernel
theorem dX6_piece_117 : decode cX6_piece 117 = .ok (.getfield 26, 3) := by decide +kernel
theorem dX6_piece_120 : decode cX6_piece 120 = .ok (.iload_n 1, 1) := by decide +kernel
theorem dX6_piece_121 : decode cX6_piece 121 = .ok (.invokevirtual 157, 3) := by decide +kernel
theorem dX6_piece_124 : decode cX6_piece 124 = .ok (.ireturn, 1) := by decide +kernel
theorem dX6_piece_125 : decode cX6_piece 125 = .ok (.ldc 69, 2) := by decide +kernel
theorem dX6_piece_127 : decode cX6_piece 127 = .ok (.ireturn, 1) := by decide +kernel
theorem dX6_stand_0 : decode cX6_stand 0 = .ok (.aload_n 0, 1) := by decide +kernel
theorem dX6_stand_1 : decode cX6_stand 1 = .ok (.invokevirtual 144, 3) := by decide +kernel
theorem dX6_stand_4 : decode cX6_stand 4 = .ok (.ifCond .eq 6, 3) := by decide +kernel
theorem dX6_stand_7 : decode cX6_stand 7 = .ok (.ldc 143, 2) := by decide +kernel
theorem dX6_stand_9 : decode cX6_stand 9 = .ok (.ireturn, 1) := by decide +kernel
theorem dX6_stand_10 : decode cX6_stand 10 = .ok (.iload_n 1, 1) := by decide +kernel
theorem dX6_stand_11 : decode cX6_stand 11 = .ok (.tableswitch 91 0 5 #[37, 45, 55, 63, 71, 81], 37) := by decide +kernel
theorem dX6_stand_48 : decode cX6_stand 48 = .ok (.aload_n 0, 1) := by decide +kernel
theorem dX6_stand_49 : decode cX6_stand 49 = .ok (.getfield 26, 3) := by decide +kernel
theorem dX6_stand_52 : decode cX6_stand 52 = .ok (.getfield 208, 3) := by decide +kernel
theorem dX6_stand_55 : decode cX6_stand 55 = .ok (.ireturn, 1) := by decide +kernel
theorem dX6_stand_56 : decode cX6_stand 56 = .ok (.aload_n 0, 1) := by decide +kernel
theorem dX6_stand_57 : decode cX6_stand 57 = .ok (.getfield 26, 3) := by decide +kernel
theorem dX6_stand_60 : decode cX6_stand 60 = .ok (.bipush 10, 2) := by decide +kernel
theorem dX6_stand_62 : decode cX6_stand 62 = .ok (.invokevirtual 157, 3) := by decide +kernel
theorem dX6_stand_65 : decode cX6_stand 65 = .ok (.ireturn, 1) := by decide +kernel
theorem dX6_stand_66 : decode cX6_stand 66 = .ok (.aload_n 0, 1) := by decide +kernel
theorem dX6_stand_67 : decode cX6_stand 67 = .ok (.getfield 26, 3) := by decide +kernel
theorem dX6_stand_70 : decode cX6_stand 70 = .ok (.invokevirtual 211, 3) := by decide +kernel
theorem dX6_stand_73 : decode cX6_stand 73 = .ok (.ireturn, 1) := by decide +kernel
theorem dX6_stand_74 : decode cX6_stand 74 = .ok (.aload_n 0, 1) := by decide +kernel
theorem dX6_stand_75 : decode cX6_stand 75 = .ok (.getfield 26, 3) := by decide +kernel
theorem dX6_stand_78 : decode cX6_stand 78 = .ok (.invokevirtual 214, 3) := by decide +kernel
theorem dX6_stand_81 : decode cX6_stand 81 = .ok (.ireturn, 1) := by decide +kernel
theorem dX6_stand_82 : decode cX6_stand 82 = .ok (.aload_n 0, 1) := by decide +kernel
theorem dX6_stand_83 : decode cX6_stand 83 = .ok (.getfield 26, 3) := by decide +kernel
theorem dX6_stand_86 : decode cX6_stand 86 = .ok (.bipush 8, 2) := by decide +kernel
theorem dX6_stand_88 : decode cX6_stand 88 = .ok (.invokevirtual 157, 3) := by decide +kernel
theorem dX6_stand_91 : decode cX6_stand 91 = .ok (.ireturn, 1) := by decide +kernel
theorem dX6_stand_92 : decode cX6_stand 92 = .ok (.aload_n 0, 1) := by decide +kernel
theorem dX6_stand_93 : decode cX6_stand 93 = .ok (.getfield 26, 3) := by decide +kernel
theorem dX6_stand_96 : decode cX6_stand 96 = .ok (.bipush 9, 2) := by decide +kernel
theorem dX6_stand_98 : decode cX6_stand 98 = .ok (.invokevirtual 157, 3) := by decide +kernel
theorem dX6_stand_101 : decode cX6_stand 101 = .ok (.ireturn, 1) := by decide +kernel
theorem dX6_stand_102 : decode cX6_stand 102 = .ok (.ldc 69, 2) := by decide +kernel
theorem dX6_stand_104 : decode cX6_stand 104 = .ok (.ireturn, 1) := by decide +kernel
theorem dX6_ahead_0 : decode cX6_ahead 0 = .ok (.aload_n 0, 1) := by decide +kernel
theorem dX6_ahead_1 : decode cX6_ahead 1 = .ok (.iload_n 1, 1) := by decide +kernel
theorem dX6_ahead_2 : decode cX6_ahead 2 = .ok (.invokevirtual 180, 3) := by decide +kernel
theorem dX6_ahead_5 : decode cX6_ahead 5 = .ok (.ifCond .ne 13, 3) := by decide +kernel
theorem dX6_ahead_8 : decode cX6_ahead 8 = .ok (.iload_n 2, 1) := by decide +kernel
theorem dX6_ahead_9 : decode cX6_ahead 9 = .ok (.iconst 0, 1) := by decide +kernel
theorem dX6_ahead_10 : decode cX6_ahead 10 = .ok (.bipush 60, 2) := by decide +kernel
theorem dX6_ahead_12 : decode cX6_ahead 12 = .ok (.invokestatic 217, 3) := by decide +kernel
theorem dX6_ahead_15 : decode cX6_ahead 15 = .ok (.ifCond .eq 6, 3) := by decide +kernel
theorem dX6_ahead_18 : decode cX6_ahead 18 = .ok (.ldc 69, 2) := by decide +kernel
theorem dX6_ahead_20 : decode cX6_ahead 20 = .ok (.ireturn, 1) := by decide +kernel
theorem dX6_ahead_21 : decode cX6_ahead 21 = .ok (.aload_n 0, 1) := by decide +kernel
theorem dX6_ahead_22 : decode cX6_ahead 22 = .ok (.getfield 43, 3) := by decide +kernel
theorem dX6_ahead_25 : decode cX6_ahead 25 = .ok (.aload_n 0, 1) := by decide +kernel
theorem dX6_ahead_26 : decode cX6_ahead 26 = .ok (.getfield 26, 3) := by decide +kernel
theorem dX6_ahead_29 : decode cX6_ahead 29 = .ok (.iload_n 2, 1) := by decide +kernel
theorem dX6_ahead_30 : decode cX6_ahead 30 = .ok (.invokevirtual 220, 3) := by decide +kernel
theorem dX6_ahead_33 : decode cX6_ahead 33 = .ok (.getfield 196, 3) := by decide +kernel
theorem dX6_ahead_36 : decode cX6_ahead 36 = .ok (.iload_n 1, 1) := by decide +kernel
theorem dX6_ahead_37 : decode cX6_ahead 37 = .ok (.iaload, 1) := by decide +kernel
theorem dX6_ahead_38 : decode cX6_ahead 38 = .ok (.ireturn, 1) := by decide +kernel
theorem dX6_stands_0 : decode cX6_stands 0 = .ok (.aload_n 0, 1) := by decide +kernel
theorem dX6_stands_1 : decode cX6_stands 1 = .ok (.iload_n 1, 1) := by decide +kernel
theorem dX6_stands_2 : decode cX6_stands 2 = .ok (.invokevirtual 160, 3) := by decide +kernel
theorem dX6_stands_5 : decode cX6_stands 5 = .ok (.ifCond .ne 22, 3) := by decide +kernel
theorem dX6_stands_8 : decode cX6_stands 8 = .ok (.iload_n 2, 1) := by decide +kernel
theorem dX6_stands_9 : decode cX6_stands 9 = .ok (.iconst 0, 1) := by decide +kernel
theorem dX6_stands_10 : decode cX6_stands 10 = .ok (.bipush 60, 2) := by decide +kernel
theorem dX6_stands_12 : decode cX6_stands 12 = .ok (.invokestatic 217, 3) := by decide +kernel
theorem dX6_stands_15 : decode cX6_stands 15 = .ok (.ifCond .ne 12, 3) := by decide +kernel
theorem dX6_stands_18 : decode cX6_stands 18 = .ok (.iload_n 3, 1) := by decide +kernel
theorem dX6_stands_19 : decode cX6_stands 19 = .ok (.iconst 0, 1) := by decide +kernel
theorem dX6_stands_20 : decode cX6_stands 20 = .ok (.iconst 3, 1) := by decide +kernel
theorem dX6_stands_21 : decode cX6_stands 21 = .ok (.invokestatic 217, 3) := by decide +kernel
theorem dX6_stands_24 : decode cX6_stands 24 = .ok (.ifCond .eq 6, 3) := by decide +kernel
theorem dX6_stands_27 : decode cX6_stands 27 = .ok (.ldc 69, 2) := by decide +kernel
theorem dX6_stands_29 : decode cX6_stands 29 = .ok (.ireturn, 1) := by decide +kernel
theorem dX6_stands_30 : decode cX6_stands 30 = .ok (.aload_n 0, 1) := by decide +kernel
theorem dX6_stands_31 : decode cX6_stands 31 = .ok (.getfield 43, 3) := by decide +kernel
theorem dX6_stands_34 : decode cX6_stands 34 = .ok (.aload_n 0, 1) := by decide +kernel
theorem dX6_stands_35 : decode cX6_stands 35 = .ok (.getfield 26, 3) := by decide +kernel
theorem dX6_stands_38 : decode cX6_stands 38 = .ok (.iload_n 2, 1) := by decide +kernel
theorem dX6_stands_39 : decode cX6_stands 39 = .ok (.invokevirtual 220, 3) := by decide +kernel
theorem dX6_stands_42 : decode cX6_stands 42 = .ok (.astore 4, 2) := by decide +kernel
theorem dX6_stands_44 : decode cX6_stands 44 = .ok (.iload_n 3, 1) := by decide +kernel
theorem dX6_stands_45 : decode cX6_stands 45 = .ok (.tableswitch 51 0 2 #[27, 35, 43], 27) := by decide +kernel
theorem dX6_stands_72 : decode cX6_stands 72 = .ok (.aload 4, 2) := by decide +kernel
theorem dX6_stands_74 : decode cX6_stands 74 = .ok (.getfield 167, 3) := by decide +kernel
theorem dX6_stands_77 : decode cX6_stands 77 = .ok (.iload_n 1, 1) := by decide +kernel
theorem dX6_stands_78 : decode cX6_stands 78 = .ok (.iaload, 1) := by decide +kernel
theorem dX6_stands_79 : decode cX6_stands 79 = .ok (.ireturn, 1) := by decide +kernel
theorem dX6_stands_80 : decode cX6_stands 80 = .ok (.aload 4, 2) := by decide +kernel
theorem dX6_stands_82 : decode cX6_stands 82 = .ok (.getfield 199, 3) := by decide +kernel
theorem dX6_stands_85 : decode cX6_stands 85 = .ok (.iload_n 1, 1) := by decide +kernel
theorem dX6_stands_86 : decode cX6_stands 86 = .ok (.iaload, 1) := by decide +kernel
theorem dX6_stands_87 : decode cX6_stands 87 = .ok (.ireturn, 1) := by decide +kernel
theorem dX6_stands_88 : decode cX6_stands 88 = .ok (.aload 4, 2) := by decide +kernel
theorem dX6_stands_90 : decode cX6_stands 90 = .ok (.getfield 202, 3) := by decide +kernel
theorem dX6_stands_93 : decode cX6_stands 93 = .ok (.iload_n 1, 1) := by decide +kernel
theorem dX6_stands_94 : decode cX6_stands 94 = .ok (.iaload, 1) := by decide +kernel
theorem dX6_stands_95 : decode cX6_stands 95 = .ok (.ireturn, 1) := by decide +kernel
theorem dX6_stands_96 : decode cX6_stands 96 = .ok (.aload 4, 2) := by decide +kernel
theorem dX6_stands_98 : decode cX6_stands 98 = .ok (.getfield 205, 3) := by decide +kernel
theorem dX6_stands_101 : decode cX6_stands 101 = .ok (.iload_n 1, 1) := by decide +kernel
theorem dX6_stands_102 : decode cX6_stands 102 = .ok (.iaload, 1) := by decide +kernel
theorem dX6_stands_103 : decode cX6_stands 103 = .ok (.ireturn, 1) := by decide +kernel
theorem dX6_trays_0 : decode cX6_trays 0 = .ok (.aload_n 0, 1) := by decide +kernel
theorem dX6_trays_1 : decode cX6_trays 1 = .ok (.invokevirtual 144, 3) := by decide +kernel
theorem dX6_trays_4 : decode cX6_trays 4 = .ok (.ifCond .eq 6, 3) := by decide +kernel
theorem dX6_trays_7 : decode cX6_trays 7 = .ok (.ldc 143, 2) := by decide +kernel
theorem dX6_trays_9 : decode cX6_trays 9 = .ok (.ireturn, 1) := by decide +kernel
theorem dX6_trays_10 : decode cX6_trays 10 = .ok (.iload_n 1, 1) := by decide +kernel
theorem dX6_trays_11 : decode cX6_trays 11 = .ok (.iconst 0, 1) := by decide +kernel
theorem dX6_trays_12 : decode cX6_trays 12 = .ok (.bipush 60, 2) := by decide +kernel
theorem dX6_trays_14 : decode cX6_trays 14 = .ok (.invokestatic 217, 3) := by decide +kernel
theorem dX6_trays_17 : decode cX6_trays 17 = .ok (.ifCond .ne 10, 3) := by decide +kernel
theorem dX6_trays_20 : decode cX6_trays 20 = .ok (.iload_n 2, 1) := by decide +kernel
theorem dX6_trays_21 : decode cX6_trays 21 = .ok (.invokestatic 171, 3) := by decide +kernel
theorem dX6_trays_24 : decode cX6_trays 24 = .ok (.ifCond .eq 6, 3) := by decide +kernel
theorem dX6_trays_27 : decode cX6_trays 27 = .ok (.ldc 69, 2) := by decide +kernel
theorem dX6_trays_29 : decode cX6_trays 29 = .ok (.ireturn, 1) := by decide +kernel
theorem dX6_trays_30 : decode cX6_trays 30 = .ok (.aload_n 0, 1) := by decide +kernel
theorem dX6_trays_31 : decode cX6_trays 31 = .ok (.getfield 43, 3) := by decide +kernel
theorem dX6_trays_34 : decode cX6_trays 34 = .ok (.aload_n 0, 1) := by decide +kernel
theorem dX6_trays_35 : decode cX6_trays 35 = .ok (.getfield 26, 3) := by decide +kernel
theorem dX6_trays_38 : decode cX6_trays 38 = .ok (.iload_n 1, 1) := by decide +kernel
theorem dX6_trays_39 : decode cX6_trays 39 = .ok (.invokevirtual 220, 3) := by decide +kernel
theorem dX6_trays_42 : decode cX6_trays 42 = .ok (.iload_n 2, 1) := by decide +kernel
theorem dX6_trays_43 : decode cX6_trays 43 = .ok (.ifCond .ne 8, 3) := by decide +kernel
theorem dX6_trays_46 : decode cX6_trays 46 = .ok (.bipush 8, 2) := by decide +kernel
theorem dX6_trays_48 : decode cX6_trays 48 = .ok (.goto 5, 3) := by decide +kernel
theorem dX6_trays_51 : decode cX6_trays 51 = .ok (.bipush 9, 2) := by decide +kernel
theorem dX6_trays_53 : decode cX6_trays 53 = .ok (.invokevirtual 157, 3) := by decide +kernel
theorem dX6_trays_56 : decode cX6_trays 56 = .ok (.ireturn, 1) := by decide +kernel
theorem dX6_when_0 : decode cX6_when 0 = .ok (.aload_n 0, 1) := by decide +kernel
theorem dX6_when_1 : decode cX6_when 1 = .ok (.iload_n 1, 1) := by decide +kernel
theorem dX6_when_2 : decode cX6_when 2 = .ok (.invokevirtual 180, 3) := by decide +kernel
theorem dX6_when_5 : decode cX6_when 5 = .ok (.ifCond .eq 8, 3) := by decide +kernel
theorem dX6_when_8 : decode cX6_when 8 = .ok (.ldc 69, 2) := by decide +kernel
theorem dX6_when_10 : decode cX6_when 10 = .ok (.goto 17, 3) := by decide +kernel
theorem dX6_when_13 : decode cX6_when 13 = .ok (.aload_n 0, 1) := by decide +kernel
theorem dX6_when_14 : decode cX6_when 14 = .ok (.getfield 43, 3) := by decide +kernel
theorem dX6_when_17 : decode cX6_when 17 = .ok (.aload_n 0, 1) := by decide +kernel
theorem dX6_when_18 : decode cX6_when 18 = .ok (.getfield 26, 3) := by decide +kernel
theorem dX6_when_21 : decode cX6_when 21 = .ok (.iload_n 1, 1) := by decide +kernel
theorem dX6_when_22 : decode cX6_when 22 = .ok (.bipush 60, 2) := by decide +kernel
theorem dX6_when_24 : decode cX6_when 24 = .ok (.invokevirtual 224, 3) := by decide +kernel
theorem dX6_when_27 : decode cX6_when 27 = .ok (.ireturn, 1) := by decide +kernel
theorem dX6_rest_0 : decode cX6_rest 0 = .ok (.aload_n 0, 1) := by decide +kernel
theorem dX6_rest_1 : decode cX6_rest 1 = .ok (.invokevirtual 144, 3) := by decide +kernel
theorem dX6_rest_4 : decode cX6_rest 4 = .ok (.ifCond .eq 8, 3) := by decide +kernel
theorem dX6_rest_7 : decode cX6_rest 7 = .ok (.ldc 143, 2) := by decide +kernel
theorem dX6_rest_9 : decode cX6_rest 9 = .ok (.goto 16, 3) := by decide +kernel
theorem dX6_rest_12 : decode cX6_rest 12 = .ok (.aload_n 0, 1) := by decide +kernel
theorem dX6_rest_13 : decode cX6_rest 13 = .ok (.getfield 43, 3) := by decide +kernel
theorem dX6_rest_16 : decode cX6_rest 16 = .ok (.aload_n 0, 1) := by decide +kernel
theorem dX6_rest_17 : decode cX6_rest 17 = .ok (.getfield 26, 3) := by decide +kernel
theorem dX6_rest_20 : decode cX6_rest 20 = .ok (.bipush 60, 2) := by decide +kernel
theorem dX6_rest_22 : decode cX6_rest 22 = .ok (.invokevirtual 228, 3) := by decide +kernel
theorem dX6_rest_25 : decode cX6_rest 25 = .ok (.ireturn, 1) := by decide +kernel
theorem dX6_tips_0 : decode cX6_tips 0 = .ok (.aload_n 0, 1) := by decide +kernel
theorem dX6_tips_1 : decode cX6_tips 1 = .ok (.invokevirtual 144, 3) := by decide +kernel
theorem dX6_tips_4 : decode cX6_tips 4 = .ok (.ifCond .eq 6, 3) := by decide +kernel
theorem dX6_tips_7 : decode cX6_tips 7 = .ok (.ldc 143, 2) := by decide +kernel
theorem dX6_tips_9 : decode cX6_tips 9 = .ok (.ireturn, 1) := by decide +kernel
theorem dX6_tips_10 : decode cX6_tips 10 = .ok (.iload_n 1, 1) := by decide +kernel
theorem dX6_tips_11 : decode cX6_tips 11 = .ok (.iconst 1, 1) := by decide +kernel
theorem dX6_tips_12 : decode cX6_tips 12 = .ok (.bipush 40, 2) := by decide +kernel
theorem dX6_tips_14 : decode cX6_tips 14 = .ok (.invokestatic 217, 3) := by decide +kernel
theorem dX6_tips_17 : decode cX6_tips 17 = .ok (.ifCond .ne 12, 3) := by decide +kernel
theorem dX6_tips_20 : decode cX6_tips 20 = .ok (.iload_n 2, 1) := by decide +kernel
theorem dX6_tips_21 : decode cX6_tips 21 = .ok (.iconst 0, 1) := by decide +kernel
theorem dX6_tips_22 : decode cX6_tips 22 = .ok (.iconst 1, 1) := by decide +kernel
theorem dX6_tips_23 : decode cX6_tips 23 = .ok (.invokestatic 217, 3) := by decide +kernel
theorem dX6_tips_26 : decode cX6_tips 26 = .ok (.ifCond .eq 6, 3) := by decide +kernel
theorem dX6_tips_29 : decode cX6_tips 29 = .ok (.ldc 69, 2) := by decide +kernel
theorem dX6_tips_31 : decode cX6_tips 31 = .ok (.ireturn, 1) := by decide +kernel
theorem dX6_tips_32 : decode cX6_tips 32 = .ok (.aload_n 0, 1) := by decide +kernel
theorem dX6_tips_33 : decode cX6_tips 33 = .ok (.getfield 43, 3) := by decide +kernel
theorem dX6_tips_36 : decode cX6_tips 36 = .ok (.aload_n 0, 1) := by decide +kernel
theorem dX6_tips_37 : decode cX6_tips 37 = .ok (.getfield 26, 3) := by decide +kernel
theorem dX6_tips_40 : decode cX6_tips 40 = .ok (.iload_n 1, 1) := by decide +kernel
theorem dX6_tips_41 : decode cX6_tips 41 = .ok (.invokevirtual 232, 3) := by decide +kernel
theorem dX6_tips_44 : decode cX6_tips 44 = .ok (.iload_n 2, 1) := by decide +kernel
theorem dX6_tips_45 : decode cX6_tips 45 = .ok (.ifCond .ne 13, 3) := by decide +kernel
theorem dX6_tips_48 : decode cX6_tips 48 = .ok (.aload_n 0, 1) := by decide +kernel
theorem dX6_tips_49 : decode cX6_tips 49 = .ok (.getfield 43, 3) := by decide +kernel
theorem dX6_tips_52 : decode cX6_tips 52 = .ok (.invokevirtual 236, 3) := by decide +kernel
theorem dX6_tips_55 : decode cX6_tips 55 = .ok (.goto 10, 3) := by decide +kernel
theorem dX6_tips_58 : decode cX6_tips 58 = .ok (.aload_n 0, 1) := by decide +kernel
theorem dX6_tips_59 : decode cX6_tips 59 = .ok (.getfield 43, 3) := by decide +kernel
theorem dX6_tips_62 : decode cX6_tips 62 = .ok (.invokevirtual 239, 3) := by decide +kernel
theorem dX6_tips_65 : decode cX6_tips 65 = .ok (.ireturn, 1) := by decide +kernel
theorem dX6_order_0 : decode cX6_order 0 = .ok (.aload_n 0, 1) := by decide +kernel
theorem dX6_order_1 : decode cX6_order 1 = .ok (.invokevirtual 144, 3) := by decide +kernel
theorem dX6_order_4 : decode cX6_order 4 = .ok (.ifCond .eq 6, 3) := by decide +kernel
theorem dX6_order_7 : decode cX6_order 7 = .ok (.ldc 143, 2) := by decide +kernel
theorem dX6_order_9 : decode cX6_order 9 = .ok (.ireturn, 1) := by decide +kernel
theorem dX6_order_10 : decode cX6_order 10 = .ok (.iload_n 1, 1) := by decide +kernel
theorem dX6_order_11 : decode cX6_order 11 = .ok (.iconst 1, 1) := by decide +kernel
theorem dX6_order_12 : decode cX6_order 12 = .ok (.bipush 40, 2) := by decide +kernel
theorem dX6_order_14 : decode cX6_order 14 = .ok (.invokestatic 217, 3) := by decide +kernel
theorem dX6_order_17 : decode cX6_order 17 = .ok (.ifCond .ne 8, 3) := by decide +kernel
theorem dX6_order_20 : decode cX6_order 20 = .ok (.iload_n 2, 1) := by decide +kernel
theorem dX6_order_21 : decode cX6_order 21 = .ok (.iconst (-1), 1) := by decide +kernel
theorem dX6_order_22 : decode cX6_order 22 = .ok (.if_icmp .ge 6, 3) := by decide +kernel
theorem dX6_order_25 : decode cX6_order 25 = .ok (.ldc 69, 2) := by decide +kernel
theorem dX6_order_27 : decode cX6_order 27 = .ok (.ireturn, 1) := by decide +kernel
theorem dX6_order_28 : decode cX6_order 28 = .ok (.iload_n 2, 1) := by decide +kernel
theorem dX6_order_29 : decode cX6_order 29 = .ok (.aload_n 0, 1) := by decide +kernel
theorem dX6_order_30 : decode cX6_order 30 = .ok (.getfield 26, 3) := by decide +kernel
theorem dX6_order_33 : decode cX6_order 33 = .ok (.getfield 242, 3) := by decide +kernel
theorem dX6_order_36 : decode cX6_order 36 = .ok (.if_icmp .lt 6, 3) := by decide +kernel
theorem dX6_order_39 : decode cX6_order 39 = .ok (.ldc 245, 2) := by decide +kernel
theorem dX6_order_41 : decode cX6_order 41 = .ok (.ireturn, 1) := by decide +kernel
theorem dX6_order_42 : decode cX6_order 42 = .ok (.aload_n 0, 1) := by decide +kernel
theorem dX6_order_43 : decode cX6_order 43 = .ok (.getfield 43, 3) := by decide +kernel
theorem dX6_order_46 : decode cX6_order 46 = .ok (.aload_n 0, 1) := by decide +kernel
theorem dX6_order_47 : decode cX6_order 47 = .ok (.getfield 26, 3) := by decide +kernel
theorem dX6_order_50 : decode cX6_order 50 = .ok (.iload_n 1, 1) := by decide +kernel
theorem dX6_order_51 : decode cX6_order 51 = .ok (.invokevirtual 246, 3) := by decide +kernel
theorem dX6_order_54 : decode cX6_order 54 = .ok (.iload_n 2, 1) := by decide +kernel
theorem dX6_order_55 : decode cX6_order 55 = .ok (.ifCond .ge 13, 3) := by decide +kernel
theorem dX6_order_58 : decode cX6_order 58 = .ok (.aload_n 0, 1) := by decide +kernel
theorem dX6_order_59 : decode cX6_order 59 = .ok (.getfield 43, 3) := by decide +kernel
theorem dX6_order_62 : decode cX6_order 62 = .ok (.invokevirtual 239, 3) := by decide +kernel
theorem dX6_order_65 : decode cX6_order 65 = .ok (.goto 11, 3) := by decide +kernel
theorem dX6_order_68 : decode cX6_order 68 = .ok (.aload_n 0, 1) := by decide +kernel
theorem dX6_order_69 : decode cX6_order 69 = .ok (.getfield 43, 3) := by decide +kernel
theorem dX6_order_72 : decode cX6_order 72 = .ok (.iload_n 2, 1) := by decide +kernel
theorem dX6_order_73 : decode cX6_order 73 = .ok (.invokevirtual 249, 3) := by decide +kernel
theorem dX6_order_76 : decode cX6_order 76 = .ok (.ireturn, 1) := by decide +kernel
theorem dX6_leads_0 : decode cX6_leads 0 = .ok (.aload_n 0, 1) := by decide +kernel
theorem dX6_leads_1 : decode cX6_leads 1 = .ok (.iload_n 1, 1) := by decide +kernel
theorem dX6_leads_2 : decode cX6_leads 2 = .ok (.invokevirtual 160, 3) := by decide +kernel
theorem dX6_leads_5 : decode cX6_leads 5 = .ok (.ifCond .ne 22, 3) := by decide +kernel
theorem dX6_leads_8 : decode cX6_leads 8 = .ok (.iload_n 2, 1) := by decide +kernel
theorem dX6_leads_9 : decode cX6_leads 9 = .ok (.iconst 1, 1) := by decide +kernel
theorem dX6_leads_10 : decode cX6_leads 10 = .ok (.bipush 40, 2) := by decide +kernel
theorem dX6_leads_12 : decode cX6_leads 12 = .ok (.invokestatic 217, 3) := by decide +kernel
theorem dX6_leads_15 : decode cX6_leads 15 = .ok (.ifCond .ne 12, 3) := by decide +kernel
theorem dX6_leads_18 : decode cX6_leads 18 = .ok (.iload_n 3, 1) := by decide +kernel
theorem dX6_leads_19 : decode cX6_leads 19 = .ok (.iconst 0, 1) := by decide +kernel
theorem dX6_leads_20 : decode cX6_leads 20 = .ok (.iconst 1, 1) := by decide +kernel
theorem dX6_leads_21 : decode cX6_leads 21 = .ok (.invokestatic 217, 3) := by decide +kernel
theorem dX6_leads_24 : decode cX6_leads 24 = .ok (.ifCond .eq 6, 3) := by decide +kernel
theorem dX6_leads_27 : decode cX6_leads 27 = .ok (.ldc 69, 2) := by decide +kernel
theorem dX6_leads_29 : decode cX6_leads 29 = .ok (.ireturn, 1) := by decide +kernel
theorem dX6_leads_30 : decode cX6_leads 30 = .ok (.aload_n 0, 1) := by decide +kernel
theorem dX6_leads_31 : decode cX6_leads 31 = .ok (.getfield 43, 3) := by decide +kernel
theorem dX6_leads_34 : decode cX6_leads 34 = .ok (.aload_n 0, 1) := by decide +kernel
theorem dX6_leads_35 : decode cX6_leads 35 = .ok (.getfield 26, 3) := by decide +kernel
theorem dX6_leads_38 : decode cX6_leads 38 = .ok (.iload_n 1, 1) := by decide +kernel
theorem dX6_leads_39 : decode cX6_leads 39 = .ok (.iload_n 2, 1) := by decide +kernel
theorem dX6_leads_40 : decode cX6_leads 40 = .ok (.invokevirtual 252, 3) := by decide +kernel
theorem dX6_leads_43 : decode cX6_leads 43 = .ok (.iload_n 3, 1) := by decide +kernel
theorem dX6_leads_44 : decode cX6_leads 44 = .ok (.ifCond .ne 13, 3) := by decide +kernel
theorem dX6_leads_47 : decode cX6_leads 47 = .ok (.aload_n 0, 1) := by decide +kernel
theorem dX6_leads_48 : decode cX6_leads 48 = .ok (.getfield 43, 3) := by decide +kernel
theorem dX6_leads_51 : decode cX6_leads 51 = .ok (.invokevirtual 236, 3) := by decide +kernel
theorem dX6_leads_54 : decode cX6_leads 54 = .ok (.goto 10, 3) := by decide +kernel
theorem dX6_leads_57 : decode cX6_leads 57 = .ok (.aload_n 0, 1) := by decide +kernel
theorem dX6_leads_58 : decode cX6_leads 58 = .ok (.getfield 43, 3) := by decide +kernel
theorem dX6_leads_61 : decode cX6_leads 61 = .ok (.invokevirtual 239, 3) := by decide +kernel
theorem dX6_leads_64 : decode cX6_leads 64 = .ok (.ireturn, 1) := by decide +kernel
theorem dX6_sets_0 : decode cX6_sets 0 = .ok (.aload_n 0, 1) := by decide +kernel
theorem dX6_sets_1 : decode cX6_sets 1 = .ok (.invokevirtual 144, 3) := by decide +kernel
theorem dX6_sets_4 : decode cX6_sets 4 = .ok (.ifCond .eq 6, 3) := by decide +kernel
theorem dX6_sets_7 : decode cX6_sets 7 = .ok (.ldc 143, 2) := by decide +kernel
theorem dX6_sets_9 : decode cX6_sets 9 = .ok (.ireturn, 1) := by decide +kernel
theorem dX6_sets_10 : decode cX6_sets 10 = .ok (.iload_n 1, 1) := by decide +kernel
theorem dX6_sets_11 : decode cX6_sets 11 = .ok (.iconst 0, 1) := by decide +kernel
theorem dX6_sets_12 : decode cX6_sets 12 = .ok (.bipush 54, 2) := by decide +kernel
theorem dX6_sets_14 : decode cX6_sets 14 = .ok (.invokestatic 217, 3) := by decide +kernel
theorem dX6_sets_17 : decode cX6_sets 17 = .ok (.ifCond .ne 12, 3) := by decide +kernel
theorem dX6_sets_20 : decode cX6_sets 20 = .ok (.iload_n 2, 1) := by decide +kernel
theorem dX6_sets_21 : decode cX6_sets 21 = .ok (.iconst 0, 1) := by decide +kernel
theorem dX6_sets_22 : decode cX6_sets 22 = .ok (.iconst 2, 1) := by decide +kernel
theorem dX6_sets_23 : decode cX6_sets 23 = .ok (.invokestatic 217, 3) := by decide +kernel
theorem dX6_sets_26 : decode cX6_sets 26 = .ok (.ifCond .eq 6, 3) := by decide +kernel
theorem dX6_sets_29 : decode cX6_sets 29 = .ok (.ldc 69, 2) := by decide +kernel
theorem dX6_sets_31 : decode cX6_sets 31 = .ok (.ireturn, 1) := by decide +kernel
theorem dX6_sets_32 : decode cX6_sets 32 = .ok (.aload_n 0, 1) := by decide +kernel
theorem dX6_sets_33 : decode cX6_sets 33 = .ok (.iload_n 1, 1) := by decide +kernel
theorem dX6_sets_34 : decode cX6_sets 34 = .ok (.iload_n 2, 1) := by decide +kernel
theorem dX6_sets_35 : decode cX6_sets 35 = .ok (.invokevirtual 256, 3) := by decide +kernel
theorem dX6_sets_38 : decode cX6_sets 38 = .ok (.ireturn, 1) := by decide +kernel
theorem dX6_share_0 : decode cX6_share 0 = .ok (.aload_n 0, 1) := by decide +kernel
theorem dX6_share_1 : decode cX6_share 1 = .ok (.iload_n 1, 1) := by decide +kernel
theorem dX6_share_2 : decode cX6_share 2 = .ok (.invokevirtual 160, 3) := by decide +kernel
theorem dX6_share_5 : decode cX6_share 5 = .ok (.ifCond .ne 14, 3) := by decide +kernel
theorem dX6_share_8 : decode cX6_share 8 = .ok (.iload_n 2, 1) := by decide +kernel
theorem dX6_share_9 : decode cX6_share 9 = .ok (.iconst 0, 1) := by decide +kernel
theorem dX6_share_10 : decode cX6_share 10 = .ok (.sipush 999, 3) := by decide +kernel
theorem dX6_share_13 : decode cX6_share 13 = .ok (.invokestatic 217, 3) := by decide +kernel
theorem dX6_share_16 : decode cX6_share 16 = .ok (.ifCond .eq 6, 3) := by decide +kernel
theorem dX6_share_19 : decode cX6_share 19 = .ok (.ldc 69, 2) := by decide +kernel
theorem dX6_share_21 : decode cX6_share 21 = .ok (.ireturn, 1) := by decide +kernel
theorem dX6_share_22 : decode cX6_share 22 = .ok (.aload_n 0, 1) := by decide +kernel
theorem dX6_share_23 : decode cX6_share 23 = .ok (.iload_n 1, 1) := by decide +kernel
theorem dX6_share_24 : decode cX6_share 24 = .ok (.iload_n 2, 1) := by decide +kernel
theorem dX6_share_25 : decode cX6_share 25 = .ok (.invokevirtual 260, 3) := by decide +kernel
theorem dX6_share_28 : decode cX6_share 28 = .ok (.ireturn, 1) := by decide +kernel
theorem dX6_byTurns_0 : decode cX6_byTurns 0 = .ok (.aload_n 0, 1) := by decide +kernel
theorem dX6_byTurns_1 : decode cX6_byTurns 1 = .ok (.invokevirtual 144, 3) := by decide +kernel
theorem dX6_byTurns_4 : decode cX6_byTurns 4 = .ok (.ifCond .eq 6, 3) := by decide +kernel
theorem dX6_byTurns_7 : decode cX6_byTurns 7 = .ok (.ldc 143, 2) := by decide +kernel
theorem dX6_byTurns_9 : decode cX6_byTurns 9 = .ok (.ireturn, 1) := by decide +kernel
theorem dX6_byTurns_10 : decode cX6_byTurns 10 = .ok (.iload_n 1, 1) := by decide +kernel
theorem dX6_byTurns_11 : decode cX6_byTurns 11 = .ok (.iconst 0, 1) := by decide +kernel
theorem dX6_byTurns_12 : decode cX6_byTurns 12 = .ok (.iconst 4, 1) := by decide +kernel
theorem dX6_byTurns_13 : decode cX6_byTurns 13 = .ok (.invokestatic 217, 3) := by decide +kernel
theorem dX6_byTurns_16 : decode cX6_byTurns 16 = .ok (.ifCond .ne 13, 3) := by decide +kernel
theorem dX6_byTurns_19 : decode cX6_byTurns 19 = .ok (.iload_n 2, 1) := by decide +kernel
theorem dX6_byTurns_20 : decode cX6_byTurns 20 = .ok (.iconst 1, 1) := by decide +kernel
theorem dX6_byTurns_21 : decode cX6_byTurns 21 = .ok (.bipush 20, 2) := by decide +kernel
theorem dX6_byTurns_23 : decode cX6_byTurns 23 = .ok (.invokestatic 217, 3) := by decide +kernel
theorem dX6_byTurns_26 : decode cX6_byTurns 26 = .ok (.ifCond .eq 6, 3) := by decide +kernel
theorem dX6_byTurns_29 : decode cX6_byTurns 29 = .ok (.ldc 69, 2) := by decide +kernel
theorem dX6_byTurns_31 : decode cX6_byTurns 31 = .ok (.ireturn, 1) := by decide +kernel
theorem dX6_byTurns_32 : decode cX6_byTurns 32 = .ok (.aload_n 0, 1) := by decide +kernel
theorem dX6_byTurns_33 : decode cX6_byTurns 33 = .ok (.getfield 43, 3) := by decide +kernel
theorem dX6_byTurns_36 : decode cX6_byTurns 36 = .ok (.aload_n 0, 1) := by decide +kernel
theorem dX6_byTurns_37 : decode cX6_byTurns 37 = .ok (.getfield 26, 3) := by decide +kernel
theorem dX6_byTurns_40 : decode cX6_byTurns 40 = .ok (.iload_n 1, 1) := by decide +kernel
theorem dX6_byTurns_41 : decode cX6_byTurns 41 = .ok (.iload_n 2, 1) := by decide +kernel
theorem dX6_byTurns_42 : decode cX6_byTurns 42 = .ok (.invokevirtual 263, 3) := by decide +kernel
theorem dX6_byTurns_45 : decode cX6_byTurns 45 = .ok (.ireturn, 1) := by decide +kernel
theorem dX6_who_0 : decode cX6_who 0 = .ok (.aload_n 0, 1) := by decide +kernel
theorem dX6_who_1 : decode cX6_who 1 = .ok (.iload_n 1, 1) := by decide +kernel
theorem dX6_who_2 : decode cX6_who 2 = .ok (.invokevirtual 160, 3) := by decide +kernel
theorem dX6_who_5 : decode cX6_who 5 = .ok (.ifCond .ne 30, 3) := by decide +kernel
theorem dX6_who_8 : decode cX6_who 8 = .ok (.iload_n 2, 1) := by decide +kernel
theorem dX6_who_9 : decode cX6_who 9 = .ok (.iconst 0, 1) := by decide +kernel
theorem dX6_who_10 : decode cX6_who 10 = .ok (.iconst 1, 1) := by decide +kernel
theorem dX6_who_11 : decode cX6_who 11 = .ok (.invokestatic 217, 3) := by decide +kernel
theorem dX6_who_14 : decode cX6_who 14 = .ok (.ifCond .ne 21, 3) := by decide +kernel
theorem dX6_who_17 : decode cX6_who 17 = .ok (.iload_n 3, 1) := by decide +kernel
theorem dX6_who_18 : decode cX6_who 18 = .ok (.invokestatic 65, 3) := by decide +kernel
theorem dX6_who_21 : decode cX6_who 21 = .ok (.ifCond .ne 14, 3) := by decide +kernel
theorem dX6_who_24 : decode cX6_who 24 = .ok (.iload 5, 2) := by decide +kernel
theorem dX6_who_26 : decode cX6_who 26 = .ok (.iconst 1, 1) := by decide +kernel
theorem dX6_who_27 : decode cX6_who 27 = .ok (.bipush 12, 2) := by decide +kernel
theorem dX6_who_29 : decode cX6_who 29 = .ok (.invokestatic 217, 3) := by decide +kernel
theorem dX6_who_32 : decode cX6_who 32 = .ok (.ifCond .eq 6, 3) := by decide +kernel
theorem dX6_who_35 : decode cX6_who 35 = .ok (.ldc 69, 2) := by decide +kernel
theorem dX6_who_37 : decode cX6_who 37 = .ok (.ireturn, 1) := by decide +kernel
theorem dX6_who_38 : decode cX6_who 38 = .ok (.aload_n 0, 1) := by decide +kernel
theorem dX6_who_39 : decode cX6_who 39 = .ok (.iload_n 3, 1) := by decide +kernel
theorem dX6_who_40 : decode cX6_who 40 = .ok (.iload 4, 2) := by decide +kernel
theorem dX6_who_42 : decode cX6_who 42 = .ok (.iload 5, 2) := by decide +kernel
theorem dX6_who_44 : decode cX6_who 44 = .ok (.invokevirtual 81, 3) := by decide +kernel
theorem dX6_who_47 : decode cX6_who 47 = .ok (.istore 6, 2) := by decide +kernel
theorem dX6_who_49 : decode cX6_who 49 = .ok (.iload 6, 2) := by decide +kernel
theorem dX6_who_51 : decode cX6_who 51 = .ok (.ifCond .eq 10, 3) := by decide +kernel
theorem dX6_who_54 : decode cX6_who 54 = .ok (.aload_n 0, 1) := by decide +kernel
theorem dX6_who_55 : decode cX6_who 55 = .ok (.iload 6, 2) := by decide +kernel
theorem dX6_who_57 : decode cX6_who 57 = .ok (.invokevirtual 70, 3) := by decide +kernel
theorem dX6_who_60 : decode cX6_who 60 = .ok (.ireturn, 1) := by decide +kernel
theorem dX6_who_61 : decode cX6_who 61 = .ok (.aload_n 0, 1) := by decide +kernel
theorem dX6_who_62 : decode cX6_who 62 = .ok (.getfield 43, 3) := by decide +kernel
theorem dX6_who_65 : decode cX6_who 65 = .ok (.aload_n 0, 1) := by decide +kernel
theorem dX6_who_66 : decode cX6_who 66 = .ok (.getfield 10, 3) := by decide +kernel
theorem dX6_who_69 : decode cX6_who 69 = .ok (.iload_n 3, 1) := by decide +kernel
theorem dX6_who_70 : decode cX6_who 70 = .ok (.invokevirtual 266, 3) := by decide +kernel
theorem dX6_who_73 : decode cX6_who 73 = .ok (.iload 4, 2) := by decide +kernel
theorem dX6_who_75 : decode cX6_who 75 = .ok (.iload 5, 2) := by decide +kernel
theorem dX6_who_77 : decode cX6_who 77 = .ok (.invokevirtual 270, 3) := by decide +kernel
theorem dX6_who_80 : decode cX6_who 80 = .ok (.aload_n 0, 1) := by decide +kernel
theorem dX6_who_81 : decode cX6_who 81 = .ok (.iload_n 2, 1) := by decide +kernel
theorem dX6_who_82 : decode cX6_who 82 = .ok (.ifCond .ne 18, 3) := by decide +kernel
theorem dX6_who_85 : decode cX6_who 85 = .ok (.aload_n 0, 1) := by decide +kernel
theorem dX6_who_86 : decode cX6_who 86 = .ok (.getfield 43, 3) := by decide +kernel
theorem dX6_who_89 : decode cX6_who 89 = .ok (.aload_n 0, 1) := by decide +kernel
theorem dX6_who_90 : decode cX6_who 90 = .ok (.getfield 26, 3) := by decide +kernel
theorem dX6_who_93 : decode cX6_who 93 = .ok (.iload_n 1, 1) := by decide +kernel
theorem dX6_who_94 : decode cX6_who 94 = .ok (.invokevirtual 274, 3) := by decide +kernel
theorem dX6_who_97 : decode cX6_who 97 = .ok (.goto 15, 3) := by decide +kernel
theorem dX6_who_100 : decode cX6_who 100 = .ok (.aload_n 0, 1) := by decide +kernel
theorem dX6_who_101 : decode cX6_who 101 = .ok (.getfield 43, 3) := by decide +kernel
theorem dX6_who_104 : decode cX6_who 104 = .ok (.aload_n 0, 1) := by decide +kernel
theorem dX6_who_105 : decode cX6_who 105 = .ok (.getfield 26, 3) := by decide +kernel
theorem dX6_who_108 : decode cX6_who 108 = .ok (.iload_n 1, 1) := by decide +kernel
theorem dX6_who_109 : decode cX6_who 109 = .ok (.invokevirtual 277, 3) := by decide +kernel
theorem dX6_who_112 : decode cX6_who 112 = .ok (.invokevirtual 78, 3) := by decide +kernel
theorem dX6_who_115 : decode cX6_who 115 = .ok (.ireturn, 1) := by decide +kernel
theorem dX6_weights_0 : decode cX6_weights 0 = .ok (.aload_n 0, 1) := by decide +kernel
theorem dX6_weights_1 : decode cX6_weights 1 = .ok (.iload_n 1, 1) := by decide +kernel
theorem dX6_weights_2 : decode cX6_weights 2 = .ok (.invokevirtual 180, 3) := by decide +kernel
theorem dX6_weights_5 : decode cX6_weights 5 = .ok (.ifCond .ne 30, 3) := by decide +kernel
theorem dX6_weights_8 : decode cX6_weights 8 = .ok (.iload_n 2, 1) := by decide +kernel
theorem dX6_weights_9 : decode cX6_weights 9 = .ok (.iconst 0, 1) := by decide +kernel
theorem dX6_weights_10 : decode cX6_weights 10 = .ok (.iconst 1, 1) := by decide +kernel
theorem dX6_weights_11 : decode cX6_weights 11 = .ok (.invokestatic 217, 3) := by decide +kernel
theorem dX6_weights_14 : decode cX6_weights 14 = .ok (.ifCond .ne 21, 3) := by decide +kernel
theorem dX6_weights_17 : decode cX6_weights 17 = .ok (.iload_n 3, 1) := by decide +kernel
theorem dX6_weights_18 : decode cX6_weights 18 = .ok (.invokestatic 65, 3) := by decide +kernel
theorem dX6_weights_21 : decode cX6_weights 21 = .ok (.ifCond .ne 14, 3) := by decide +kernel
theorem dX6_weights_24 : decode cX6_weights 24 = .ok (.iload 5, 2) := by decide +kernel
theorem dX6_weights_26 : decode cX6_weights 26 = .ok (.iconst 1, 1) := by decide +kernel
theorem dX6_weights_27 : decode cX6_weights 27 = .ok (.bipush 12, 2) := by decide +kernel
theorem dX6_weights_29 : decode cX6_weights 29 = .ok (.invokestatic 217, 3) := by decide +kernel
theorem dX6_weights_32 : decode cX6_weights 32 = .ok (.ifCond .eq 6, 3) := by decide +kernel
theorem dX6_weights_35 : decode cX6_weights 35 = .ok (.ldc 69, 2) := by decide +kernel
theorem dX6_weights_37 : decode cX6_weights 37 = .ok (.ireturn, 1) := by decide +kernel
theorem dX6_weights_38 : decode cX6_weights 38 = .ok (.aload_n 0, 1) := by decide +kernel
theorem dX6_weights_39 : decode cX6_weights 39 = .ok (.iload_n 3, 1) := by decide +kernel
theorem dX6_weights_40 : decode cX6_weights 40 = .ok (.iload 4, 2) := by decide +kernel
theorem dX6_weights_42 : decode cX6_weights 42 = .ok (.iload 5, 2) := by decide +kernel
theorem dX6_weights_44 : decode cX6_weights 44 = .ok (.invokevirtual 81, 3) := by decide +kernel
theorem dX6_weights_47 : decode cX6_weights 47 = .ok (.istore 6, 2) := by decide +kernel
theorem dX6_weights_49 : decode cX6_weights 49 = .ok (.iload 6, 2) := by decide +kernel
theorem dX6_weights_51 : decode cX6_weights 51 = .ok (.ifCond .eq 10, 3) := by decide +kernel
theorem dX6_weights_54 : decode cX6_weights 54 = .ok (.aload_n 0, 1) := by decide +kernel
theorem dX6_weights_55 : decode cX6_weights 55 = .ok (.iload 6, 2) := by decide +kernel
theorem dX6_weights_57 : decode cX6_weights 57 = .ok (.invokevirtual 70, 3) := by decide +kernel
theorem dX6_weights_60 : decode cX6_weights 60 = .ok (.ireturn, 1) := by decide +kernel
theorem dX6_weights_61 : decode cX6_weights 61 = .ok (.aload_n 0, 1) := by decide +kernel
theorem dX6_weights_62 : decode cX6_weights 62 = .ok (.getfield 43, 3) := by decide +kernel
theorem dX6_weights_65 : decode cX6_weights 65 = .ok (.aload_n 0, 1) := by decide +kernel
theorem dX6_weights_66 : decode cX6_weights 66 = .ok (.getfield 10, 3) := by decide +kernel
theorem dX6_weights_69 : decode cX6_weights 69 = .ok (.iload_n 3, 1) := by decide +kernel
theorem dX6_weights_70 : decode cX6_weights 70 = .ok (.invokevirtual 266, 3) := by decide +kernel
theorem dX6_weights_73 : decode cX6_weights 73 = .ok (.iload 4, 2) := by decide +kernel
theorem dX6_weights_75 : decode cX6_weights 75 = .ok (.iload 5, 2) := by decide +kernel
theorem dX6_weights_77 : decode cX6_weights 77 = .ok (.invokevirtual 270, 3) := by decide +kernel
theorem dX6_weights_80 : decode cX6_weights 80 = .ok (.aload_n 0, 1) := by decide +kernel
theorem dX6_weights_81 : decode cX6_weights 81 = .ok (.iload_n 2, 1) := by decide +kernel
theorem dX6_weights_82 : decode cX6_weights 82 = .ok (.ifCond .ne 18, 3) := by decide +kernel
theorem dX6_weights_85 : decode cX6_weights 85 = .ok (.aload_n 0, 1) := by decide +kernel
theorem dX6_weights_86 : decode cX6_weights 86 = .ok (.getfield 43, 3) := by decide +kernel
theorem dX6_weights_89 : decode cX6_weights 89 = .ok (.aload_n 0, 1) := by decide +kernel
theorem dX6_weights_90 : decode cX6_weights 90 = .ok (.getfield 26, 3) := by decide +kernel
theorem dX6_weights_93 : decode cX6_weights 93 = .ok (.iload_n 1, 1) := by decide +kernel
theorem dX6_weights_94 : decode cX6_weights 94 = .ok (.invokevirtual 280, 3) := by decide +kernel
theorem dX6_weights_97 : decode cX6_weights 97 = .ok (.goto 14, 3) := by decide +kernel
theorem dX6_weights_100 : decode cX6_weights 100 = .ok (.aload_n 0, 1) := by decide +kernel
theorem dX6_weights_101 : decode cX6_weights 101 = .ok (.getfield 43, 3) := by decide +kernel
theorem dX6_weights_104 : decode cX6_weights 104 = .ok (.aload_n 0, 1) := by decide +kernel
theorem dX6_weights_105 : decode cX6_weights 105 = .ok (.getfield 26, 3) := by decide +kernel
theorem dX6_weights_108 : decode cX6_weights 108 = .ok (.invokevirtual 283, 3) := by decide +kernel
theorem dX6_weights_111 : decode cX6_weights 111 = .ok (.invokevirtual 78, 3) := by decide +kernel
theorem dX6_weights_114 : decode cX6_weights 114 = .ok (.ireturn, 1) := by decide +kernel
theorem dX6_jam_0 : decode cX6_jam 0 = .ok (.aload_n 0, 1) := by decide +kernel
theorem dX6_jam_1 : decode cX6_jam 1 = .ok (.iload_n 1, 1) := by decide +kernel
theorem dX6_jam_2 : decode cX6_jam 2 = .ok (.invokevirtual 180, 3) := by decide +kernel
theorem dX6_jam_5 : decode cX6_jam 5 = .ok (.ifCond .ne 33, 3) := by decide +kernel
theorem dX6_jam_8 : decode cX6_jam 8 = .ok (.iload_n 2, 1) := by decide +kernel
theorem dX6_jam_9 : decode cX6_jam 9 = .ok (.iconst 0, 1) := by decide +kernel
theorem dX6_jam_10 : decode cX6_jam 10 = .ok (.bipush 30, 2) := by decide +kernel
theorem dX6_jam_12 : decode cX6_jam 12 = .ok (.invokestatic 217, 3) := by decide +kernel
theorem dX6_jam_15 : decode cX6_jam 15 = .ok (.ifCond .ne 23, 3) := by decide +kernel
theorem dX6_jam_18 : decode cX6_jam 18 = .ok (.iload_n 3, 1) := by decide +kernel
theorem dX6_jam_19 : decode cX6_jam 19 = .ok (.iconst 0, 1) := by decide +kernel
theorem dX6_jam_20 : decode cX6_jam 20 = .ok (.bipush 10, 2) := by decide +kernel
theorem dX6_jam_22 : decode cX6_jam 22 = .ok (.invokestatic 217, 3) := by decide +kernel
theorem dX6_jam_25 : decode cX6_jam 25 = .ok (.ifCond .ne 13, 3) := by decide +kernel
theorem dX6_jam_28 : decode cX6_jam 28 = .ok (.iload 4, 2) := by decide +kernel
theorem dX6_jam_30 : decode cX6_jam 30 = .ok (.iconst 0, 1) := by decide +kernel
theorem dX6_jam_31 : decode cX6_jam 31 = .ok (.iconst 1, 1) := by decide +kernel
theorem dX6_jam_32 : decode cX6_jam 32 = .ok (.invokestatic 217, 3) := by decide +kernel
theorem dX6_jam_35 : decode cX6_jam 35 = .ok (.ifCond .eq 7, 3) := by decide +kernel
theorem dX6_jam_38 : decode cX6_jam 38 = .ok (.ldc2_w 287, 3) := by decide +kernel
theorem dX6_jam_41 : decode cX6_jam 41 = .ok (.lreturn, 1) := by decide +kernel
theorem dX6_jam_42 : decode cX6_jam 42 = .ok (.aload_n 0, 1) := by decide +kernel
theorem dX6_jam_43 : decode cX6_jam 43 = .ok (.getfield 43, 3) := by decide +kernel
theorem dX6_jam_46 : decode cX6_jam 46 = .ok (.aload_n 0, 1) := by decide +kernel
theorem dX6_jam_47 : decode cX6_jam 47 = .ok (.getfield 26, 3) := by decide +kernel
theorem dX6_jam_50 : decode cX6_jam 50 = .ok (.iload_n 1, 1) := by decide +kernel
theorem dX6_jam_51 : decode cX6_jam 51 = .ok (.iload_n 2, 1) := by decide +kernel
theorem dX6_jam_52 : decode cX6_jam 52 = .ok (.iload_n 3, 1) := by decide +kernel
theorem dX6_jam_53 : decode cX6_jam 53 = .ok (.invokevirtual 289, 3) := by decide +kernel
theorem dX6_jam_56 : decode cX6_jam 56 = .ok (.lstore 5, 2) := by decide +kernel
theorem dX6_jam_58 : decode cX6_jam 58 = .ok (.ldc2_w 293, 3) := by decide +kernel
theorem dX6_jam_61 : decode cX6_jam 61 = .ok (.aload_n 0, 1) := by decide +kernel
theorem dX6_jam_62 : decode cX6_jam 62 = .ok (.getfield 26, 3) := by decide +kernel
theorem dX6_jam_65 : decode cX6_jam 65 = .ok (.getfield 134, 3) := by decide +kernel
theorem dX6_jam_68 : decode cX6_jam 68 = .ok (.invokestatic 295, 3) := by decide +kernel
theorem dX6_jam_71 : decode cX6_jam 71 = .ok (.lstore 7, 2) := by decide +kernel
theorem dX6_jam_73 : decode cX6_jam 73 = .ok (.lload 5, 2) := by decide +kernel
theorem dX6_jam_75 : decode cX6_jam 75 = .ok (.lload 7, 2) := by decide +kernel
theorem dX6_jam_77 : decode cX6_jam 77 = .ok (.invokestatic 299, 3) := by decide +kernel
theorem dX6_jam_80 : decode cX6_jam 80 = .ok (.lstore 9, 2) := by decide +kernel
theorem dX6_jam_82 : decode cX6_jam 82 = .ok (.lload 9, 2) := by decide +kernel
theorem dX6_jam_84 : decode cX6_jam 84 = .ok (.lconst 0, 1) := by decide +kernel
theorem dX6_jam_85 : decode cX6_jam 85 = .ok (.lcmp, 1) := by decide +kernel
theorem dX6_jam_86 : decode cX6_jam 86 = .ok (.ifCond .gt 7, 3) := by decide +kernel
theorem dX6_jam_89 : decode cX6_jam 89 = .ok (.ldc2_w 287, 3) := by decide +kernel
theorem dX6_jam_92 : decode cX6_jam 92 = .ok (.lreturn, 1) := by decide +kernel
theorem dX6_jam_93 : decode cX6_jam 93 = .ok (.iload 4, 2) := by decide +kernel
theorem dX6_jam_95 : decode cX6_jam 95 = .ok (.ifCond .ne 11, 3) := by decide +kernel
theorem dX6_jam_98 : decode cX6_jam 98 = .ok (.lload 5, 2) := by decide +kernel
theorem dX6_jam_100 : decode cX6_jam 100 = .ok (.lload 9, 2) := by decide +kernel
theorem dX6_jam_102 : decode cX6_jam 102 = .ok (.ldiv, 1) := by decide +kernel
theorem dX6_jam_103 : decode cX6_jam 103 = .ok (.goto 8, 3) := by decide +kernel
theorem dX6_jam_106 : decode cX6_jam 106 = .ok (.lload 7, 2) := by decide +kernel
theorem dX6_jam_108 : decode cX6_jam 108 = .ok (.lload 9, 2) := by decide +kernel
theorem dX6_jam_110 : decode cX6_jam 110 = .ok (.ldiv, 1) := by decide +kernel
theorem dX6_jam_111 : decode cX6_jam 111 = .ok (.lreturn, 1) := by decide +kernel
theorem dX6_drawn_0 : decode cX6_drawn 0 = .ok (.aload_n 0, 1) := by decide +kernel
theorem dX6_drawn_1 : decode cX6_drawn 1 = .ok (.invokevirtual 144, 3) := by decide +kernel
theorem dX6_drawn_4 : decode cX6_drawn 4 = .ok (.ifCond .eq 6, 3) := by decide +kernel
theorem dX6_drawn_7 : decode cX6_drawn 7 = .ok (.ldc 143, 2) := by decide +kernel
theorem dX6_drawn_9 : decode cX6_drawn 9 = .ok (.ireturn, 1) := by decide +kernel
theorem dX6_drawn_10 : decode cX6_drawn 10 = .ok (.iload_n 1, 1) := by decide +kernel
theorem dX6_drawn_11 : decode cX6_drawn 11 = .ok (.iconst 0, 1) := by decide +kernel
theorem dX6_drawn_12 : decode cX6_drawn 12 = .ok (.bipush 60, 2) := by decide +kernel
theorem dX6_drawn_14 : decode cX6_drawn 14 = .ok (.invokestatic 217, 3) := by decide +kernel
theorem dX6_drawn_17 : decode cX6_drawn 17 = .ok (.ifCond .ne 23, 3) := by decide +kernel
theorem dX6_drawn_20 : decode cX6_drawn 20 = .ok (.iload_n 2, 1) := by decide +kernel
theorem dX6_drawn_21 : decode cX6_drawn 21 = .ok (.iconst 1, 1) := by decide +kernel
theorem dX6_drawn_22 : decode cX6_drawn 22 = .ok (.ldc_w 303, 3) := by decide +kernel
theorem dX6_drawn_25 : decode cX6_drawn 25 = .ok (.invokestatic 217, 3) := by decide +kernel
theorem dX6_drawn_28 : decode cX6_drawn 28 = .ok (.ifCond .ne 12, 3) := by decide +kernel
theorem dX6_drawn_31 : decode cX6_drawn 31 = .ok (.iload_n 3, 1) := by decide +kernel
theorem dX6_drawn_32 : decode cX6_drawn 32 = .ok (.iconst 0, 1) := by decide +kernel
theorem dX6_drawn_33 : decode cX6_drawn 33 = .ok (.iconst 1, 1) := by decide +kernel
theorem dX6_drawn_34 : decode cX6_drawn 34 = .ok (.invokestatic 217, 3) := by decide +kernel
theorem dX6_drawn_37 : decode cX6_drawn 37 = .ok (.ifCond .eq 6, 3) := by decide +kernel
theorem dX6_drawn_40 : decode cX6_drawn 40 = .ok (.ldc 69, 2) := by decide +kernel
theorem dX6_drawn_42 : decode cX6_drawn 42 = .ok (.ireturn, 1) := by decide +kernel
theorem dX6_drawn_43 : decode cX6_drawn 43 = .ok (.aload_n 0, 1) := by decide +kernel
theorem dX6_drawn_44 : decode cX6_drawn 44 = .ok (.getfield 43, 3) := by decide +kernel
theorem dX6_drawn_47 : decode cX6_drawn 47 = .ok (.aload_n 0, 1) := by decide +kernel
theorem dX6_drawn_48 : decode cX6_drawn 48 = .ok (.getfield 26, 3) := by decide +kernel
theorem dX6_drawn_51 : decode cX6_drawn 51 = .ok (.iload_n 1, 1) := by decide +kernel
theorem dX6_drawn_52 : decode cX6_drawn 52 = .ok (.iload_n 2, 1) := by decide +kernel
theorem dX6_drawn_53 : decode cX6_drawn 53 = .ok (.iload_n 3, 1) := by decide +kernel
theorem dX6_drawn_54 : decode cX6_drawn 54 = .ok (.ifCond .ne 8, 3) := by decide +kernel
theorem dX6_drawn_57 : decode cX6_drawn 57 = .ok (.bipush 9, 2) := by decide +kernel
theorem dX6_drawn_59 : decode cX6_drawn 59 = .ok (.goto 5, 3) := by decide +kernel
theorem dX6_drawn_62 : decode cX6_drawn 62 = .ok (.bipush 8, 2) := by decide +kernel
theorem dX6_drawn_64 : decode cX6_drawn 64 = .ok (.invokevirtual 304, 3) := by decide +kernel
theorem dX6_drawn_67 : decode cX6_drawn 67 = .ok (.ireturn, 1) := by decide +kernel
theorem dX6_image_0 : decode cX6_image 0 = .ok (.iload_n 1, 1) := by decide +kernel
theorem dX6_image_1 : decode cX6_image 1 = .ok (.iconst 0, 1) := by decide +kernel
theorem dX6_image_2 : decode cX6_image 2 = .ok (.iconst 1, 1) := by decide +kernel
theorem dX6_image_3 : decode cX6_image 3 = .ok (.invokestatic 217, 3) := by decide +kernel
theorem dX6_image_6 : decode cX6_image 6 = .ok (.ifCond .eq 6, 3) := by decide +kernel
theorem dX6_image_9 : decode cX6_image 9 = .ok (.ldc 69, 2) := by decide +kernel
theorem dX6_image_11 : decode cX6_image 11 = .ok (.ireturn, 1) := by decide +kernel
theorem dX6_image_12 : decode cX6_image 12 = .ok (.aload_n 0, 1) := by decide +kernel
theorem dX6_image_13 : decode cX6_image 13 = .ok (.invokevirtual 144, 3) := by decide +kernel
theorem dX6_image_16 : decode cX6_image 16 = .ok (.ifCond .eq 6, 3) := by decide +kernel
theorem dX6_image_19 : decode cX6_image 19 = .ok (.ldc 143, 2) := by decide +kernel
theorem dX6_image_21 : decode cX6_image 21 = .ok (.ireturn, 1) := by decide +kernel
theorem dX6_image_22 : decode cX6_image 22 = .ok (.aload_n 0, 1) := by decide +kernel
theorem dX6_image_23 : decode cX6_image 23 = .ok (.getfield 54, 3) := by decide +kernel
theorem dX6_image_26 : decode cX6_image 26 = .ok (.iload_n 1, 1) := by decide +kernel
theorem dX6_image_27 : decode cX6_image 27 = .ok (.aaload, 1) := by decide +kernel
theorem dX6_image_28 : decode cX6_image 28 = .ok (.aload_n 0, 1) := by decide +kernel
theorem dX6_image_29 : decode cX6_image 29 = .ok (.getfield 26, 3) := by decide +kernel
theorem dX6_image_32 : decode cX6_image 32 = .ok (.invokevirtual 127, 3) := by decide +kernel
theorem dX6_image_35 : decode cX6_image 35 = .ok (.iconst 1, 1) := by decide +kernel
theorem dX6_image_36 : decode cX6_image 36 = .ok (.ireturn, 1) := by decide +kernel
theorem dX6_restore_0 : decode cX6_restore 0 = .ok (.iload_n 1, 1) := by decide +kernel
theorem dX6_restore_1 : decode cX6_restore 1 = .ok (.iconst 0, 1) := by decide +kernel
theorem dX6_restore_2 : decode cX6_restore 2 = .ok (.iconst 1, 1) := by decide +kernel
theorem dX6_restore_3 : decode cX6_restore 3 = .ok (.invokestatic 217, 3) := by decide +kernel
theorem dX6_restore_6 : decode cX6_restore 6 = .ok (.ifCond .eq 6, 3) := by decide +kernel
theorem dX6_restore_9 : decode cX6_restore 9 = .ok (.ldc 69, 2) := by decide +kernel
theorem dX6_restore_11 : decode cX6_restore 11 = .ok (.ireturn, 1) := by decide +kernel
theorem dX6_restore_12 : decode cX6_restore 12 = .ok (.aload_n 0, 1) := by decide +kernel
theorem dX6_restore_13 : decode cX6_restore 13 = .ok (.getfield 54, 3) := by decide +kernel
theorem dX6_restore_16 : decode cX6_restore 16 = .ok (.iload_n 1, 1) := by decide +kernel
theorem dX6_restore_17 : decode cX6_restore 17 = .ok (.aaload, 1) := by decide +kernel
theorem dX6_restore_18 : decode cX6_restore 18 = .ok (.getfield 134, 3) := by decide +kernel
theorem dX6_restore_21 : decode cX6_restore 21 = .ok (.ifCond .ne 6, 3) := by decide +kernel
theorem dX6_restore_24 : decode cX6_restore 24 = .ok (.ldc 143, 2) := by decide +kernel
theorem dX6_restore_26 : decode cX6_restore 26 = .ok (.ireturn, 1) := by decide +kernel
theorem dX6_restore_27 : decode cX6_restore 27 = .ok (.aload_n 0, 1) := by decide +kernel
theorem dX6_restore_28 : decode cX6_restore 28 = .ok (.getfield 26, 3) := by decide +kernel
theorem dX6_restore_31 : decode cX6_restore 31 = .ok (.aload_n 0, 1) := by decide +kernel
theorem dX6_restore_32 : decode cX6_restore 32 = .ok (.getfield 54, 3) := by decide +kernel
theorem dX6_restore_35 : decode cX6_restore 35 = .ok (.iload_n 1, 1) := by decide +kernel
theorem dX6_restore_36 : decode cX6_restore 36 = .ok (.aaload, 1) := by decide +kernel
theorem dX6_restore_37 : decode cX6_restore 37 = .ok (.invokevirtual 127, 3) := by decide +kernel
theorem dX6_restore_40 : decode cX6_restore 40 = .ok (.aload_n 0, 1) := by decide +kernel
theorem dX6_restore_41 : decode cX6_restore 41 = .ok (.getfield 36, 3) := by decide +kernel
theorem dX6_restore_44 : decode cX6_restore 44 = .ok (.invokevirtual 131, 3) := by decide +kernel
theorem dX6_restore_47 : decode cX6_restore 47 = .ok (.iconst 1, 1) := by decide +kernel
theorem dX6_restore_48 : decode cX6_restore 48 = .ok (.ireturn, 1) := by decide +kernel
theorem dX6_kind_0 : decode cX6_kind 0 = .ok (.aload_n 0, 1) := by decide +kernel
theorem dX6_kind_1 : decode cX6_kind 1 = .ok (.iload_n 1, 1) := by decide +kernel
theorem dX6_kind_2 : decode cX6_kind 2 = .ok (.invokevirtual 160, 3) := by decide +kernel
theorem dX6_kind_5 : decode cX6_kind 5 = .ok (.ifCond .eq 8, 3) := by decide +kernel
theorem dX6_kind_8 : decode cX6_kind 8 = .ok (.ldc 69, 2) := by decide +kernel
theorem dX6_kind_10 : decode cX6_kind 10 = .ok (.goto 12, 3) := by decide +kernel
theorem dX6_kind_13 : decode cX6_kind 13 = .ok (.aload_n 0, 1) := by decide +kernel
theorem dX6_kind_14 : decode cX6_kind 14 = .ok (.getfield 26, 3) := by decide +kernel
theorem dX6_kind_17 : decode cX6_kind 17 = .ok (.getfield 308, 3) := by decide +kernel
theorem dX6_kind_20 : decode cX6_kind 20 = .ok (.iload_n 1, 1) := by decide +kernel
theorem dX6_kind_21 : decode cX6_kind 21 = .ok (.iaload, 1) := by decide +kernel
theorem dX6_kind_22 : decode cX6_kind 22 = .ok (.ireturn, 1) := by decide +kernel
theorem dX6_as_0 : decode cX6_as 0 = .ok (.aload_n 0, 1) := by decide +kernel
theorem dX6_as_1 : decode cX6_as 1 = .ok (.iload_n 1, 1) := by decide +kernel
theorem dX6_as_2 : decode cX6_as 2 = .ok (.invokevirtual 160, 3) := by decide +kernel
theorem dX6_as_5 : decode cX6_as 5 = .ok (.ifCond .ne 12, 3) := by decide +kernel
theorem dX6_as_8 : decode cX6_as 8 = .ok (.iload_n 2, 1) := by decide +kernel
theorem dX6_as_9 : decode cX6_as 9 = .ok (.iconst 0, 1) := by decide +kernel
theorem dX6_as_10 : decode cX6_as 10 = .ok (.iconst 5, 1) := by decide +kernel
theorem dX6_as_11 : decode cX6_as 11 = .ok (.invokestatic 217, 3) := by decide +kernel
theorem dX6_as_14 : decode cX6_as 14 = .ok (.ifCond .eq 6, 3) := by decide +kernel
theorem dX6_as_17 : decode cX6_as 17 = .ok (.ldc 69, 2) := by decide +kernel
theorem dX6_as_19 : decode cX6_as 19 = .ok (.ireturn, 1) := by decide +kernel
theorem dX6_as_20 : decode cX6_as 20 = .ok (.aload_n 0, 1) := by decide +kernel
theorem dX6_as_21 : decode cX6_as 21 = .ok (.getfield 26, 3) := by decide +kernel
theorem dX6_as_24 : decode cX6_as 24 = .ok (.getfield 308, 3) := by decide +kernel
theorem dX6_as_27 : decode cX6_as 27 = .ok (.iload_n 1, 1) := by decide +kernel
theorem dX6_as_28 : decode cX6_as 28 = .ok (.iaload, 1) := by decide +kernel
theorem dX6_as_29 : decode cX6_as 29 = .ok (.iload_n 2, 1) := by decide +kernel
theorem dX6_as_30 : decode cX6_as 30 = .ok (.invokestatic 311, 3) := by decide +kernel
theorem dX6_as_33 : decode cX6_as 33 = .ok (.ifCond .eq 11, 3) := by decide +kernel
theorem dX6_as_36 : decode cX6_as 36 = .ok (.aload_n 0, 1) := by decide +kernel
theorem dX6_as_37 : decode cX6_as 37 = .ok (.iload_n 1, 1) := by decide +kernel
theorem dX6_as_38 : decode cX6_as 38 = .ok (.invokevirtual 78, 3) := by decide +kernel
theorem dX6_as_41 : decode cX6_as 41 = .ok (.goto 8, 3) := by decide +kernel
theorem dX6_as_44 : decode cX6_as 44 = .ok (.aload_n 0, 1) := by decide +kernel
theorem dX6_as_45 : decode cX6_as 45 = .ok (.iconst 3, 1) := by decide +kernel
theorem dX6_as_46 : decode cX6_as 46 = .ok (.invokevirtual 70, 3) := by decide +kernel
theorem dX6_as_49 : decode cX6_as 49 = .ok (.ireturn, 1) := by decide +kernel
theorem dX6_ask_0 : decode cX6_ask 0 = .ok (.aload_n 0, 1) := by decide +kernel
theorem dX6_ask_1 : decode cX6_ask 1 = .ok (.iload_n 1, 1) := by decide +kernel
theorem dX6_ask_2 : decode cX6_ask 2 = .ok (.invokevirtual 160, 3) := by decide +kernel
theorem dX6_ask_5 : decode cX6_ask 5 = .ok (.ifCond .ne 12, 3) := by decide +kernel
theorem dX6_ask_8 : decode cX6_ask 8 = .ok (.iload_n 2, 1) := by decide +kernel
theorem dX6_ask_9 : decode cX6_ask 9 = .ok (.iconst 0, 1) := by decide +kernel
theorem dX6_ask_10 : decode cX6_ask 10 = .ok (.iconst 1, 1) := by decide +kernel
theorem dX6_ask_11 : decode cX6_ask 11 = .ok (.invokestatic 217, 3) := by decide +kernel
theorem dX6_ask_14 : decode cX6_ask 14 = .ok (.ifCond .eq 6, 3) := by decide +kernel
theorem dX6_ask_17 : decode cX6_ask 17 = .ok (.ldc 69, 2) := by decide +kernel
theorem dX6_ask_19 : decode cX6_ask 19 = .ok (.ireturn, 1) := by decide +kernel
theorem dX6_ask_20 : decode cX6_ask 20 = .ok (.aload_n 0, 1) := by decide +kernel
theorem dX6_ask_21 : decode cX6_ask 21 = .ok (.getfield 50, 3) := by decide +kernel
theorem dX6_ask_24 : decode cX6_ask 24 = .ok (.invokevirtual 315, 3) := by decide +kernel
theorem dX6_ask_27 : decode cX6_ask 27 = .ok (.iload_n 2, 1) := by decide +kernel
theorem dX6_ask_28 : decode cX6_ask 28 = .ok (.ifCond .ne 18, 3) := by decide +kernel
theorem dX6_ask_31 : decode cX6_ask 31 = .ok (.aload_n 0, 1) := by decide +kernel
theorem dX6_ask_32 : decode cX6_ask 32 = .ok (.getfield 50, 3) := by decide +kernel
theorem dX6_ask_35 : decode cX6_ask 35 = .ok (.aload_n 0, 1) := by decide +kernel
theorem dX6_ask_36 : decode cX6_ask 36 = .ok (.getfield 26, 3) := by decide +kernel
theorem dX6_ask_39 : decode cX6_ask 39 = .ok (.iload_n 1, 1) := by decide +kernel
theorem dX6_ask_40 : decode cX6_ask 40 = .ok (.invokevirtual 318, 3) := by decide +kernel
theorem dX6_ask_43 : decode cX6_ask 43 = .ok (.goto 15, 3) := by decide +kernel
theorem dX6_ask_46 : decode cX6_ask 46 = .ok (.aload_n 0, 1) := by decide +kernel
theorem dX6_ask_47 : decode cX6_ask 47 = .ok (.getfield 50, 3) := by decide +kernel
theorem dX6_ask_50 : decode cX6_ask 50 = .ok (.aload_n 0, 1) := by decide +kernel
theorem dX6_ask_51 : decode cX6_ask 51 = .ok (.getfield 26, 3) := by decide +kernel
theorem dX6_ask_54 : decode cX6_ask 54 = .ok (.iload_n 1, 1) := by decide +kernel
theorem dX6_ask_55 : decode cX6_ask 55 = .ok (.invokevirtual 321, 3) := by decide +kernel
theorem dX6_ask_58 : decode cX6_ask 58 = .ok (.ireturn, 1) := by decide +kernel
theorem dX6_trace_0 : decode cX6_trace 0 = .ok (.aload_n 0, 1) := by decide +kernel
theorem dX6_trace_1 : decode cX6_trace 1 = .ok (.getfield 50, 3) := by decide +kernel
theorem dX6_trace_4 : decode cX6_trace 4 = .ok (.iload_n 1, 1) := by decide +kernel
theorem dX6_trace_5 : decode cX6_trace 5 = .ok (.invokevirtual 324, 3) := by decide +kernel
theorem dX6_trace_8 : decode cX6_trace 8 = .ok (.ireturn, 1) := by decide +kernel
theorem dX6_count_0 : decode cX6_count 0 = .ok (.iload_n 1, 1) := by decide +kernel
theorem dX6_count_1 : decode cX6_count 1 = .ok (.tableswitch 114 0 7 #[47, 55, 63, 71, 79, 90, 98, 106], 47) := by decide +kernel
theorem dX6_count_48 : decode cX6_count 48 = .ok (.aload_n 0, 1) := by decide +kernel
theorem dX6_count_49 : decode cX6_count 49 = .ok (.getfield 10, 3) := by decide +kernel
theorem dX6_count_52 : decode cX6_count 52 = .ok (.invokevirtual 327, 3) := by decide +kernel
theorem dX6_count_55 : decode cX6_count 55 = .ok (.ireturn, 1) := by decide +kernel
theorem dX6_count_56 : decode cX6_count 56 = .ok (.aload_n 0, 1) := by decide +kernel
theorem dX6_count_57 : decode cX6_count 57 = .ok (.getfield 26, 3) := by decide +kernel
theorem dX6_count_60 : decode cX6_count 60 = .ok (.getfield 134, 3) := by decide +kernel
theorem dX6_count_63 : decode cX6_count 63 = .ok (.ireturn, 1) := by decide +kernel
theorem dX6_count_64 : decode cX6_count 64 = .ok (.aload_n 0, 1) := by decide +kernel
theorem dX6_count_65 : decode cX6_count 65 = .ok (.getfield 26, 3) := by decide +kernel
theorem dX6_count_68 : decode cX6_count 68 = .ok (.getfield 242, 3) := by decide +kernel
theorem dX6_count_71 : decode cX6_count 71 = .ok (.ireturn, 1) := by decide +kernel
theorem dX6_count_72 : decode cX6_count 72 = .ok (.aload_n 0, 1) := by decide +kernel
theorem dX6_count_73 : decode cX6_count 73 = .ok (.getfield 26, 3) := by decide +kernel
theorem dX6_count_76 : decode cX6_count 76 = .ok (.getfield 148, 3) := by decide +kernel
theorem dX6_count_79 : decode cX6_count 79 = .ok (.ireturn, 1) := by decide +kernel
theorem dX6_count_80 : decode cX6_count 80 = .ok (.aload_n 0, 1) := by decide +kernel
theorem dX6_count_81 : decode cX6_count 81 = .ok (.getfield 26, 3) := by decide +kernel
theorem dX6_count_84 : decode cX6_count 84 = .ok (.invokevirtual 211, 3) := by decide +kernel
theorem dX6_count_87 : decode cX6_count 87 = .ok (.invokestatic 330, 3) := by decide +kernel
theorem dX6_count_90 : decode cX6_count 90 = .ok (.ireturn, 1) := by decide +kernel
theorem dX6_count_91 : decode cX6_count 91 = .ok (.aload_n 0, 1) := by decide +kernel
theorem dX6_count_92 : decode cX6_count 92 = .ok (.getfield 26, 3) := by decide +kernel
theorem dX6_count_95 : decode cX6_count 95 = .ok (.invokevirtual 335, 3) := by decide +kernel
theorem dX6_count_98 : decode cX6_count 98 = .ok (.ireturn, 1) := by decide +kernel
theorem dX6_count_99 : decode cX6_count 99 = .ok (.aload_n 0, 1) := by decide +kernel
theorem dX6_count_100 : decode cX6_count 100 = .ok (.getfield 36, 3) := by decide +kernel
theorem dX6_count_103 : decode cX6_count 103 = .ok (.invokevirtual 140, 3) := by decide +kernel
theorem dX6_count_106 : decode cX6_count 106 = .ok (.ireturn, 1) := by decide +kernel
theorem dX6_count_107 : decode cX6_count 107 = .ok (.aload_n 0, 1) := by decide +kernel
theorem dX6_count_108 : decode cX6_count 108 = .ok (.getfield 19, 3) := by decide +kernel
theorem dX6_count_111 : decode cX6_count 111 = .ok (.invokevirtual 108, 3) := by decide +kernel
theorem dX6_count_114 : decode cX6_count 114 = .ok (.ireturn, 1) := by decide +kernel
theorem dX6_count_115 : decode cX6_count 115 = .ok (.ldc 69, 2) := by decide +kernel
theorem dX6_count_117 : decode cX6_count 117 = .ok (.ireturn, 1) := by decide +kernel
theorem dX6_status_0 : decode cX6_status 0 = .ok (.aload_n 0, 1) := by decide +kernel
theorem dX6_status_1 : decode cX6_status 1 = .ok (.getfield 62, 3) := by decide +kernel
theorem dX6_status_4 : decode cX6_status 4 = .ok (.ireturn, 1) := by decide +kernel
theorem dX6_outside_0 : decode cX6_outside 0 = .ok (.iload_n 0, 1) := by decide +kernel
theorem dX6_outside_1 : decode cX6_outside 1 = .ok (.iload_n 1, 1) := by decide +kernel
theorem dX6_outside_2 : decode cX6_outside 2 = .ok (.if_icmp .lt 8, 3) := by decide +kernel
theorem dX6_outside_5 : decode cX6_outside 5 = .ok (.iload_n 0, 1) := by decide +kernel
theorem dX6_outside_6 : decode cX6_outside 6 = .ok (.iload_n 2, 1) := by decide +kernel
theorem dX6_outside_7 : decode cX6_outside 7 = .ok (.if_icmp .le 7, 3) := by decide +kernel
theorem dX6_outside_10 : decode cX6_outside 10 = .ok (.iconst 1, 1) := by decide +kernel
theorem dX6_outside_11 : decode cX6_outside 11 = .ok (.goto 4, 3) := by decide +kernel
theorem dX6_outside_14 : decode cX6_outside 14 = .ok (.iconst 0, 1) := by decide +kernel
theorem dX6_outside_15 : decode cX6_outside 15 = .ok (.ireturn, 1) := by decide +kernel
theorem dX6_noSide_0 : decode cX6_noSide 0 = .ok (.iload_n 0, 1) := by decide +kernel
theorem dX6_noSide_1 : decode cX6_noSide 1 = .ok (.iconst 0, 1) := by decide +kernel
theorem dX6_noSide_2 : decode cX6_noSide 2 = .ok (.iconst 1, 1) := by decide +kernel
theorem dX6_noSide_3 : decode cX6_noSide 3 = .ok (.invokestatic 217, 3) := by decide +kernel
theorem dX6_noSide_6 : decode cX6_noSide 6 = .ok (.ireturn, 1) := by decide +kernel
theorem dX6_noRow_0 : decode cX6_noRow 0 = .ok (.iload_n 0, 1) := by decide +kernel
theorem dX6_noRow_1 : decode cX6_noRow 1 = .ok (.iconst 0, 1) := by decide +kernel
theorem dX6_noRow_2 : decode cX6_noRow 2 = .ok (.bipush 7, 2) := by decide +kernel
theorem dX6_noRow_4 : decode cX6_noRow 4 = .ok (.invokestatic 217, 3) := by decide +kernel
theorem dX6_noRow_7 : decode cX6_noRow 7 = .ok (.ireturn, 1) := by decide +kernel
theorem dX6_noRun_0 : decode cX6_noRun 0 = .ok (.aload_n 0, 1) := by decide +kernel
theorem dX6_noRun_1 : decode cX6_noRun 1 = .ok (.getfield 26, 3) := by decide +kernel
theorem dX6_noRun_4 : decode cX6_noRun 4 = .ok (.getfield 134, 3) := by decide +kernel
theorem dX6_noRun_7 : decode cX6_noRun 7 = .ok (.ifCond .ne 7, 3) := by decide +kernel
theorem dX6_noRun_10 : decode cX6_noRun 10 = .ok (.iconst 1, 1) := by decide +kernel
theorem dX6_noRun_11 : decode cX6_noRun 11 = .ok (.goto 4, 3) := by decide +kernel
theorem dX6_noRun_14 : decode cX6_noRun 14 = .ok (.iconst 0, 1) := by decide +kernel
theorem dX6_noRun_15 : decode cX6_noRun 15 = .ok (.ireturn, 1) := by decide +kernel
theorem dX6_noPiece_0 : decode cX6_noPiece 0 = .ok (.iload_n 1, 1) := by decide +kernel
theorem dX6_noPiece_1 : decode cX6_noPiece 1 = .ok (.iconst 0, 1) := by decide +kernel
theorem dX6_noPiece_2 : decode cX6_noPiece 2 = .ok (.aload_n 0, 1) := by decide +kernel
theorem dX6_noPiece_3 : decode cX6_noPiece 3 = .ok (.getfield 26, 3) := by decide +kernel
theorem dX6_noPiece_6 : decode cX6_noPiece 6 = .ok (.getfield 134, 3) := by decide +kernel
theorem dX6_noPiece_9 : decode cX6_noPiece 9 = .ok (.iconst 1, 1) := by decide +kernel
theorem dX6_noPiece_10 : decode cX6_noPiece 10 = .ok (.isub, 1) := by decide +kernel
theorem dX6_noPiece_11 : decode cX6_noPiece 11 = .ok (.invokestatic 217, 3) := by decide +kernel
theorem dX6_noPiece_14 : decode cX6_noPiece 14 = .ok (.ireturn, 1) := by decide +kernel
theorem dX6_noMarble_0 : decode cX6_noMarble 0 = .ok (.iload_n 1, 1) := by decide +kernel
theorem dX6_noMarble_1 : decode cX6_noMarble 1 = .ok (.iconst 0, 1) := by decide +kernel
theorem dX6_noMarble_2 : decode cX6_noMarble 2 = .ok (.aload_n 0, 1) := by decide +kernel
theorem dX6_noMarble_3 : decode cX6_noMarble 3 = .ok (.getfield 26, 3) := by decide +kernel
theorem dX6_noMarble_6 : decode cX6_noMarble 6 = .ok (.getfield 242, 3) := by decide +kernel
theorem dX6_noMarble_9 : decode cX6_noMarble 9 = .ok (.iconst 1, 1) := by decide +kernel
theorem dX6_noMarble_10 : decode cX6_noMarble 10 = .ok (.isub, 1) := by decide +kernel
theorem dX6_noMarble_11 : decode cX6_noMarble 11 = .ok (.invokestatic 217, 3) := by decide +kernel
theorem dX6_noMarble_14 : decode cX6_noMarble 14 = .ok (.ireturn, 1) := by decide +kernel
theorem dX6_findingAt_0 : decode cX6_findingAt 0 = .ok (.aload_n 0, 1) := by decide +kernel
theorem dX6_findingAt_1 : decode cX6_findingAt 1 = .ok (.getfield 10, 3) := by decide +kernel
theorem dX6_findingAt_4 : decode cX6_findingAt 4 = .ok (.iload_n 1, 1) := by decide +kernel
theorem dX6_findingAt_5 : decode cX6_findingAt 5 = .ok (.invokevirtual 88, 3) := by decide +kernel
theorem dX6_findingAt_8 : decode cX6_findingAt 8 = .ok (.ifCond .eq 5, 3) := by decide +kernel
theorem dX6_findingAt_11 : decode cX6_findingAt 11 = .ok (.iconst 1, 1) := by decide +kernel
theorem dX6_findingAt_12 : decode cX6_findingAt 12 = .ok (.ireturn, 1) := by decide +kernel
theorem dX6_findingAt_13 : decode cX6_findingAt 13 = .ok (.aload_n 0, 1) := by decide +kernel
theorem dX6_findingAt_14 : decode cX6_findingAt 14 = .ok (.getfield 10, 3) := by decide +kernel
theorem dX6_findingAt_17 : decode cX6_findingAt 17 = .ok (.iload_n 1, 1) := by decide +kernel
theorem dX6_findingAt_18 : decode cX6_findingAt 18 = .ok (.iload_n 2, 1) := by decide +kernel
theorem dX6_findingAt_19 : decode cX6_findingAt 19 = .ok (.iload_n 3, 1) := by decide +kernel
theorem dX6_findingAt_20 : decode cX6_findingAt 20 = .ok (.invokevirtual 94, 3) := by decide +kernel
theorem dX6_findingAt_23 : decode cX6_findingAt 23 = .ok (.ifCond .eq 7, 3) := by decide +kernel
theorem dX6_findingAt_26 : decode cX6_findingAt 26 = .ok (.iconst 0, 1) := by decide +kernel
theorem dX6_findingAt_27 : decode cX6_findingAt 27 = .ok (.goto 4, 3) := by decide +kernel
theorem dX6_findingAt_30 : decode cX6_findingAt 30 = .ok (.iconst 2, 1) := by decide +kernel
theorem dX6_findingAt_31 : decode cX6_findingAt 31 = .ok (.ireturn, 1) := by decide +kernel
theorem dX6_found_0 : decode cX6_found 0 = .ok (.aload_n 0, 1) := by decide +kernel
theorem dX6_found_1 : decode cX6_found 1 = .ok (.iload_n 1, 1) := by decide +kernel
theorem dX6_found_2 : decode cX6_found 2 = .ok (.putfield 62, 3) := by decide +kernel
theorem dX6_found_5 : decode cX6_found 5 = .ok (.ldc_w 338, 3) := by decide +kernel
theorem dX6_found_8 : decode cX6_found 8 = .ok (.iload_n 1, 1) := by decide +kernel
theorem dX6_found_9 : decode cX6_found 9 = .ok (.isub, 1) := by decide +kernel
theorem dX6_found_10 : decode cX6_found 10 = .ok (.ireturn, 1) := by decide +kernel
theorem dX6_foundNone_0 : decode cX6_foundNone 0 = .ok (.aload_n 0, 1) := by decide +kernel
theorem dX6_foundNone_1 : decode cX6_foundNone 1 = .ok (.iconst 0, 1) := by decide +kernel
theorem dX6_foundNone_2 : decode cX6_foundNone 2 = .ok (.putfield 62, 3) := by decide +kernel
theorem dX6_foundNone_5 : decode cX6_foundNone 5 = .ok (.iload_n 1, 1) := by decide +kernel
theorem dX6_foundNone_6 : decode cX6_foundNone 6 = .ok (.ireturn, 1) := by decide +kernel
theorem dX6_setsOf_0 : decode cX6_setsOf 0 = .ok (.aload_n 0, 1) := by decide +kernel
theorem dX6_setsOf_1 : decode cX6_setsOf 1 = .ok (.getfield 26, 3) := by decide +kernel
theorem dX6_setsOf_4 : decode cX6_setsOf 4 = .ok (.invokevirtual 339, 3) := by decide +kernel
theorem dX6_setsOf_7 : decode cX6_setsOf 7 = .ok (.istore_n 3, 1) := by decide +kernel
theorem dX6_setsOf_8 : decode cX6_setsOf 8 = .ok (.iconst 0, 1) := by decide +kernel
theorem dX6_setsOf_9 : decode cX6_setsOf 9 = .ok (.istore 4, 2) := by decide +kernel
theorem dX6_setsOf_11 : decode cX6_setsOf 11 = .ok (.iload_n 3, 1) := by decide +kernel
theorem dX6_setsOf_12 : decode cX6_setsOf 12 = .ok (.istore 5, 2) := by decide +kernel
theorem dX6_setsOf_14 : decode cX6_setsOf 14 = .ok (.iconst 0, 1) := by decide +kernel
theorem dX6_setsOf_15 : decode cX6_setsOf 15 = .ok (.istore 6, 2) := by decide +kernel
theorem dX6_setsOf_17 : decode cX6_setsOf 17 = .ok (.iconst 0, 1) := by decide +kernel
theorem dX6_setsOf_18 : decode cX6_setsOf 18 = .ok (.istore 7, 2) := by decide +kernel
theorem dX6_setsOf_20 : decode cX6_setsOf 20 = .ok (.iload 7, 2) := by decide +kernel
theorem dX6_setsOf_22 : decode cX6_setsOf 22 = .ok (.iload_n 3, 1) := by decide +kernel
theorem dX6_setsOf_23 : decode cX6_setsOf 23 = .ok (.if_icmp .gt 48, 3) := by decide +kernel
theorem dX6_setsOf_26 : decode cX6_setsOf 26 = .ok (.iload 7, 2) := by decide +kernel
theorem dX6_setsOf_28 : decode cX6_setsOf 28 = .ok (.iload_n 3, 1) := by decide +kernel
theorem dX6_setsOf_29 : decode cX6_setsOf 29 = .ok (.iconst (-1), 1) := by decide +kernel
theorem dX6_setsOf_30 : decode cX6_setsOf 30 = .ok (.ixor, 1) := by decide +kernel
theorem dX6_setsOf_31 : decode cX6_setsOf 31 = .ok (.iand, 1) := by decide +kernel
theorem dX6_setsOf_32 : decode cX6_setsOf 32 = .ok (.ifCond .ne 33, 3) := by decide +kernel
theorem dX6_setsOf_35 : decode cX6_setsOf 35 = .ok (.aload_n 0, 1) := by decide +kernel
theorem dX6_setsOf_36 : decode cX6_setsOf 36 = .ok (.getfield 26, 3) := by decide +kernel
theorem dX6_setsOf_39 : decode cX6_setsOf 39 = .ok (.iload 7, 2) := by decide +kernel
theorem dX6_setsOf_41 : decode cX6_setsOf 41 = .ok (.invokevirtual 342, 3) := by decide +kernel
theorem dX6_setsOf_44 : decode cX6_setsOf 44 = .ok (.iload_n 1, 1) := by decide +kernel
theorem dX6_setsOf_45 : decode cX6_setsOf 45 = .ok (.if_icmp .ne 20, 3) := by decide +kernel
theorem dX6_setsOf_48 : decode cX6_setsOf 48 = .ok (.iinc 4 1, 3) := by decide +kernel
theorem dX6_setsOf_51 : decode cX6_setsOf 51 = .ok (.iload 5, 2) := by decide +kernel
theorem dX6_setsOf_53 : decode cX6_setsOf 53 = .ok (.iload 7, 2) := by decide +kernel
theorem dX6_setsOf_55 : decode cX6_setsOf 55 = .ok (.iand, 1) := by decide +kernel
theorem dX6_setsOf_56 : decode cX6_setsOf 56 = .ok (.istore 5, 2) := by decide +kernel
theorem dX6_setsOf_58 : decode cX6_setsOf 58 = .ok (.iload 6, 2) := by decide +kernel
theorem dX6_setsOf_60 : decode cX6_setsOf 60 = .ok (.iload 7, 2) := by decide +kernel
theorem dX6_setsOf_62 : decode cX6_setsOf 62 = .ok (.ior, 1) := by decide +kernel
theorem dX6_setsOf_63 : decode cX6_setsOf 63 = .ok (.istore 6, 2) := by decide +kernel
theorem dX6_setsOf_65 : decode cX6_setsOf 65 = .ok (.iinc 7 1, 3) := by decide +kernel
theorem dX6_setsOf_68 : decode cX6_setsOf 68 = .ok (.goto (-48), 3) := by decide +kernel
theorem dX6_setsOf_71 : decode cX6_setsOf 71 = .ok (.iload_n 2, 1) := by decide +kernel
theorem dX6_setsOf_72 : decode cX6_setsOf 72 = .ok (.ifCond .ne 6, 3) := by decide +kernel
theorem dX6_setsOf_75 : decode cX6_setsOf 75 = .ok (.iload 4, 2) := by decide +kernel
theorem dX6_setsOf_77 : decode cX6_setsOf 77 = .ok (.ireturn, 1) := by decide +kernel
theorem dX6_setsOf_78 : decode cX6_setsOf 78 = .ok (.iload 4, 2) := by decide +kernel
theorem dX6_setsOf_80 : decode cX6_setsOf 80 = .ok (.ifCond .ne 5, 3) := by decide +kernel
theorem dX6_setsOf_83 : decode cX6_setsOf 83 = .ok (.iconst 0, 1) := by decide +kernel
theorem dX6_setsOf_84 : decode cX6_setsOf 84 = .ok (.ireturn, 1) := by decide +kernel
theorem dX6_setsOf_85 : decode cX6_setsOf 85 = .ok (.iload_n 2, 1) := by decide +kernel
theorem dX6_setsOf_86 : decode cX6_setsOf 86 = .ok (.iconst 1, 1) := by decide +kernel
theorem dX6_setsOf_87 : decode cX6_setsOf 87 = .ok (.if_icmp .ne 8, 3) := by decide +kernel
theorem dX6_setsOf_90 : decode cX6_setsOf 90 = .ok (.iload 5, 2) := by decide +kernel
theorem dX6_setsOf_92 : decode cX6_setsOf 92 = .ok (.goto 5, 3) := by decide +kernel
theorem dX6_setsOf_95 : decode cX6_setsOf 95 = .ok (.iload 6, 2) := by decide +kernel
theorem dX6_setsOf_97 : decode cX6_setsOf 97 = .ok (.ireturn, 1) := by decide +kernel
theorem dX6_shareOf_0 : decode cX6_shareOf 0 = .ok (.aload_n 0, 1) := by decide +kernel
theorem dX6_shareOf_1 : decode cX6_shareOf 1 = .ok (.getfield 26, 3) := by decide +kernel
theorem dX6_shareOf_4 : decode cX6_shareOf 4 = .ok (.invokevirtual 335, 3) := by decide +kernel
theorem dX6_shareOf_7 : decode cX6_shareOf 7 = .ok (.istore_n 3, 1) := by decide +kernel
theorem dX6_shareOf_8 : decode cX6_shareOf 8 = .ok (.iload_n 3, 1) := by decide +kernel
theorem dX6_shareOf_9 : decode cX6_shareOf 9 = .ok (.ifCond .le 15, 3) := by decide +kernel
theorem dX6_shareOf_12 : decode cX6_shareOf 12 = .ok (.aload_n 0, 1) := by decide +kernel
theorem dX6_shareOf_13 : decode cX6_shareOf 13 = .ok (.getfield 26, 3) := by decide +kernel
theorem dX6_shareOf_16 : decode cX6_shareOf 16 = .ok (.getfield 202, 3) := by decide +kernel
theorem dX6_shareOf_19 : decode cX6_shareOf 19 = .ok (.iload_n 1, 1) := by decide +kernel
theorem dX6_shareOf_20 : decode cX6_shareOf 20 = .ok (.iaload, 1) := by decide +kernel
theorem dX6_shareOf_21 : decode cX6_shareOf 21 = .ok (.ifCond .ne 5, 3) := by decide +kernel
theorem dX6_shareOf_24 : decode cX6_shareOf 24 = .ok (.iconst 0, 1) := by decide +kernel
theorem dX6_shareOf_25 : decode cX6_shareOf 25 = .ok (.ireturn, 1) := by decide +kernel
theorem dX6_shareOf_26 : decode cX6_shareOf 26 = .ok (.iload_n 2, 1) := by decide +kernel
theorem dX6_shareOf_27 : decode cX6_shareOf 27 = .ok (.istore 4, 2) := by decide +kernel
theorem dX6_shareOf_29 : decode cX6_shareOf 29 = .ok (.iconst 0, 1) := by decide +kernel
theorem dX6_shareOf_30 : decode cX6_shareOf 30 = .ok (.istore 5, 2) := by decide +kernel
theorem dX6_shareOf_32 : decode cX6_shareOf 32 = .ok (.iconst 0, 1) := by decide +kernel
theorem dX6_shareOf_33 : decode cX6_shareOf 33 = .ok (.istore 6, 2) := by decide +kernel
theorem dX6_shareOf_35 : decode cX6_shareOf 35 = .ok (.iload 6, 2) := by decide +kernel
theorem dX6_shareOf_37 : decode cX6_shareOf 37 = .ok (.aload_n 0, 1) := by decide +kernel
theorem dX6_shareOf_38 : decode cX6_shareOf 38 = .ok (.getfield 26, 3) := by decide +kernel
theorem dX6_shareOf_41 : decode cX6_shareOf 41 = .ok (.getfield 134, 3) := by decide +kernel
theorem dX6_shareOf_44 : decode cX6_shareOf 44 = .ok (.if_icmp .ge 50, 3) := by decide +kernel
theorem dX6_shareOf_47 : decode cX6_shareOf 47 = .ok (.iload 4, 2) := by decide +kernel
theorem dX6_shareOf_49 : decode cX6_shareOf 49 = .ok (.iload_n 2, 1) := by decide +kernel
theorem dX6_shareOf_50 : decode cX6_shareOf 50 = .ok (.aload_n 0, 1) := by decide +kernel
theorem dX6_shareOf_51 : decode cX6_shareOf 51 = .ok (.getfield 26, 3) := by decide +kernel
theorem dX6_shareOf_54 : decode cX6_shareOf 54 = .ok (.getfield 202, 3) := by decide +kernel
theorem dX6_shareOf_57 : decode cX6_shareOf 57 = .ok (.iload 6, 2) := by decide +kernel
theorem dX6_shareOf_59 : decode cX6_shareOf 59 = .ok (.iaload, 1) := by decide +kernel
theorem dX6_shareOf_60 : decode cX6_shareOf 60 = .ok (.imul, 1) := by decide +kernel
theorem dX6_shareOf_61 : decode cX6_shareOf 61 = .ok (.iload_n 3, 1) := by decide +kernel
theorem dX6_shareOf_62 : decode cX6_shareOf 62 = .ok (.idiv, 1) := by decide +kernel
theorem dX6_shareOf_63 : decode cX6_shareOf 63 = .ok (.isub, 1) := by decide +kernel
theorem dX6_shareOf_64 : decode cX6_shareOf 64 = .ok (.istore 4, 2) := by decide +kernel
theorem dX6_shareOf_66 : decode cX6_shareOf 66 = .ok (.iload 6, 2) := by decide +kernel
theorem dX6_shareOf_68 : decode cX6_shareOf 68 = .ok (.iload_n 1, 1) := by decide +kernel
theorem dX6_shareOf_69 : decode cX6_shareOf 69 = .ok (.if_icmp .ge 19, 3) := by decide +kernel
theorem dX6_shareOf_72 : decode cX6_shareOf 72 = .ok (.aload_n 0, 1) := by decide +kernel
theorem dX6_shareOf_73 : decode cX6_shareOf 73 = .ok (.getfield 26, 3) := by decide +kernel
theorem dX6_shareOf_76 : decode cX6_shareOf 76 = .ok (.getfield 202, 3) := by decide +kernel
theorem dX6_shareOf_79 : decode cX6_shareOf 79 = .ok (.iload 6, 2) := by decide +kernel
theorem dX6_shareOf_81 : decode cX6_shareOf 81 = .ok (.iaload, 1) := by decide +kernel
theorem dX6_shareOf_82 : decode cX6_shareOf 82 = .ok (.ifCond .le 6, 3) := by decide +kernel
theorem dX6_shareOf_85 : decode cX6_shareOf 85 = .ok (.iinc 5 1, 3) := by decide +kernel
theorem dX6_shareOf_88 : decode cX6_shareOf 88 = .ok (.iinc 6 1, 3) := by decide +kernel
theorem dX6_shareOf_91 : decode cX6_shareOf 91 = .ok (.goto (-56), 3) := by decide +kernel
theorem dX6_shareOf_94 : decode cX6_shareOf 94 = .ok (.iload_n 2, 1) := by decide +kernel
theorem dX6_shareOf_95 : decode cX6_shareOf 95 = .ok (.aload_n 0, 1) := by decide +kernel
theorem dX6_shareOf_96 : decode cX6_shareOf 96 = .ok (.getfield 26, 3) := by decide +kernel
theorem dX6_shareOf_99 : decode cX6_shareOf 99 = .ok (.getfield 202, 3) := by decide +kernel
theorem dX6_shareOf_102 : decode cX6_shareOf 102 = .ok (.iload_n 1, 1) := by decide +kernel
theorem dX6_shareOf_103 : decode cX6_shareOf 103 = .ok (.iaload, 1) := by decide +kernel
theorem dX6_shareOf_104 : decode cX6_shareOf 104 = .ok (.imul, 1) := by decide +kernel
theorem dX6_shareOf_105 : decode cX6_shareOf 105 = .ok (.iload_n 3, 1) := by decide +kernel
theorem dX6_shareOf_106 : decode cX6_shareOf 106 = .ok (.idiv, 1) := by decide +kernel
theorem dX6_shareOf_107 : decode cX6_shareOf 107 = .ok (.iload 5, 2) := by decide +kernel
theorem dX6_shareOf_109 : decode cX6_shareOf 109 = .ok (.iload 4, 2) := by decide +kernel
theorem dX6_shareOf_111 : decode cX6_shareOf 111 = .ok (.if_icmp .ge 7, 3) := by decide +kernel
theorem dX6_shareOf_114 : decode cX6_shareOf 114 = .ok (.iconst 1, 1) := by decide +kernel
theorem dX6_shareOf_115 : decode cX6_shareOf 115 = .ok (.goto 4, 3) := by decide +kernel
theorem dX6_shareOf_118 : decode cX6_shareOf 118 = .ok (.iconst 0, 1) := by decide +kernel
theorem dX6_shareOf_119 : decode cX6_shareOf 119 = .ok (.iadd, 1) := by decide +kernel
theorem dX6_shareOf_120 : decode cX6_shareOf 120 = .ok (.ireturn, 1) := by decide +kernel
theorem dX6_power_0 : decode cX6_power 0 = .ok (.lconst 1, 1) := by decide +kernel
theorem dX6_power_1 : decode cX6_power 1 = .ok (.lstore_n 3, 1) := by decide +kernel
theorem dX6_power_2 : decode cX6_power 2 = .ok (.iconst 0, 1) := by decide +kernel
theorem dX6_power_3 : decode cX6_power 3 = .ok (.istore 5, 2) := by decide +kernel
theorem dX6_power_5 : decode cX6_power 5 = .ok (.iload 5, 2) := by decide +kernel
theorem dX6_power_7 : decode cX6_power 7 = .ok (.iload_n 2, 1) := by decide +kernel
theorem dX6_power_8 : decode cX6_power 8 = .ok (.if_icmp .ge 13, 3) := by decide +kernel
theorem dX6_power_11 : decode cX6_power 11 = .ok (.lload_n 3, 1) := by decide +kernel
theorem dX6_power_12 : decode cX6_power 12 = .ok (.lload_n 0, 1) := by decide +kernel
theorem dX6_power_13 : decode cX6_power 13 = .ok (.lmul, 1) := by decide +kernel
theorem dX6_power_14 : decode cX6_power 14 = .ok (.lstore_n 3, 1) := by decide +kernel
theorem dX6_power_15 : decode cX6_power 15 = .ok (.iinc 5 1, 3) := by decide +kernel
theorem dX6_power_18 : decode cX6_power 18 = .ok (.goto (-13), 3) := by decide +kernel
theorem dX6_power_21 : decode cX6_power 21 = .ok (.lload_n 3, 1) := by decide +kernel
theorem dX6_power_22 : decode cX6_power 22 = .ok (.lreturn, 1) := by decide +kernel
theorem dX6_commonDivisor_0 : decode cX6_commonDivisor 0 = .ok (.lload_n 0, 1) := by decide +kernel
theorem dX6_commonDivisor_1 : decode cX6_commonDivisor 1 = .ok (.lstore 4, 2) := by decide +kernel
theorem dX6_commonDivisor_3 : decode cX6_commonDivisor 3 = .ok (.lload_n 2, 1) := by decide +kernel
theorem dX6_commonDivisor_4 : decode cX6_commonDivisor 4 = .ok (.lstore 6, 2) := by decide +kernel
theorem dX6_commonDivisor_6 : decode cX6_commonDivisor 6 = .ok (.iconst 0, 1) := by decide +kernel
theorem dX6_commonDivisor_7 : decode cX6_commonDivisor 7 = .ok (.istore 8, 2) := by decide +kernel
theorem dX6_commonDivisor_9 : decode cX6_commonDivisor 9 = .ok (.iload 8, 2) := by decide +kernel
theorem dX6_commonDivisor_11 : decode cX6_commonDivisor 11 = .ok (.bipush 100, 2) := by decide +kernel
theorem dX6_commonDivisor_13 : decode cX6_commonDivisor 13 = .ok (.if_icmp .ge 31, 3) := by decide +kernel
theorem dX6_commonDivisor_16 : decode cX6_commonDivisor 16 = .ok (.lload 6, 2) := by decide +kernel
theorem dX6_commonDivisor_18 : decode cX6_commonDivisor 18 = .ok (.lconst 0, 1) := by decide +kernel
theorem dX6_commonDivisor_19 : decode cX6_commonDivisor 19 = .ok (.lcmp, 1) := by decide +kernel
theorem dX6_commonDivisor_20 : decode cX6_commonDivisor 20 = .ok (.ifCond .eq 24, 3) := by decide +kernel
theorem dX6_commonDivisor_23 : decode cX6_commonDivisor 23 = .ok (.lload 4, 2) := by decide +kernel
theorem dX6_commonDivisor_25 : decode cX6_commonDivisor 25 = .ok (.lload 6, 2) := by decide +kernel
theorem dX6_commonDivisor_27 : decode cX6_commonDivisor 27 = .ok (.lrem, 1) := by decide +kernel
theorem dX6_commonDivisor_28 : decode cX6_commonDivisor 28 = .ok (.lstore 9, 2) := by decide +kernel
theorem dX6_commonDivisor_30 : decode cX6_commonDivisor 30 = .ok (.lload 6, 2) := by decide +kernel
theorem dX6_commonDivisor_32 : decode cX6_commonDivisor 32 = .ok (.lstore 4, 2) := by decide +kernel
theorem dX6_commonDivisor_34 : decode cX6_commonDivisor 34 = .ok (.lload 9, 2) := by decide +kernel
theorem dX6_commonDivisor_36 : decode cX6_commonDivisor 36 = .ok (.lstore 6, 2) := by decide +kernel
theorem dX6_commonDivisor_38 : decode cX6_commonDivisor 38 = .ok (.iinc 8 1, 3) := by decide +kernel
theorem dX6_commonDivisor_41 : decode cX6_commonDivisor 41 = .ok (.goto (-32), 3) := by decide +kernel
theorem dX6_commonDivisor_44 : decode cX6_commonDivisor 44 = .ok (.lload 4, 2) := by decide +kernel
theorem dX6_commonDivisor_46 : decode cX6_commonDivisor 46 = .ok (.lreturn, 1) := by decide +kernel
theorem dX7_init_0 : decode cX7_init 0 = .ok (.aload_n 0, 1) := by decide +kernel
theorem dX7_init_1 : decode cX7_init 1 = .ok (.invokespecial 1, 3) := by decide +kernel
theorem dX7_init_4 : decode cX7_init 4 = .ok (.aload_n 0, 1) := by decide +kernel
theorem dX7_init_5 : decode cX7_init 5 = .ok (.bipush 8, 2) := by decide +kernel
theorem dX7_init_7 : decode cX7_init 7 = .ok (.newarray .int, 2) := by decide +kernel
theorem dX7_init_9 : decode cX7_init 9 = .ok (.putfield 7, 3) := by decide +kernel
theorem dX7_init_12 : decode cX7_init 12 = .ok (.aload_n 0, 1) := by decide +kernel
theorem dX7_init_13 : decode cX7_init 13 = .ok (.bipush 8, 2) := by decide +kernel
theorem dX7_init_15 : decode cX7_init 15 = .ok (.newarray .int, 2) := by decide +kernel
theorem dX7_init_17 : decode cX7_init 17 = .ok (.putfield 13, 3) := by decide +kernel
theorem dX7_init_20 : decode cX7_init 20 = .ok (.aload_n 0, 1) := by decide +kernel
theorem dX7_init_21 : decode cX7_init 21 = .ok (.sipush 320, 3) := by decide +kernel
theorem dX7_init_24 : decode cX7_init 24 = .ok (.newarray .int, 2) := by decide +kernel
theorem dX7_init_26 : decode cX7_init 26 = .ok (.putfield 16, 3) := by decide +kernel
theorem dX7_init_29 : decode cX7_init 29 = .ok (.aload_n 0, 1) := by decide +kernel
theorem dX7_init_30 : decode cX7_init 30 = .ok (.bipush 110, 2) := by decide +kernel
theorem dX7_init_32 : decode cX7_init 32 = .ok (.newarray .int, 2) := by decide +kernel
theorem dX7_init_34 : decode cX7_init 34 = .ok (.putfield 19, 3) := by decide +kernel
theorem dX7_init_37 : decode cX7_init 37 = .ok (.aload_n 0, 1) := by decide +kernel
theorem dX7_init_38 : decode cX7_init 38 = .ok (.bipush 8, 2) := by decide +kernel
theorem dX7_init_40 : decode cX7_init 40 = .ok (.newarray .int, 2) := by decide +kernel
theorem dX7_init_42 : decode cX7_init 42 = .ok (.putfield 22, 3) := by decide +kernel
theorem dX7_init_45 : decode cX7_init 45 = .ok (.aload_n 0, 1) := by decide +kernel
theorem dX7_init_46 : decode cX7_init 46 = .ok (.bipush 67, 2) := by decide +kernel
theorem dX7_init_48 : decode cX7_init 48 = .ok (.newarray .int, 2) := by decide +kernel
theorem dX7_init_50 : decode cX7_init 50 = .ok (.putfield 25, 3) := by decide +kernel
theorem dX7_init_53 : decode cX7_init 53 = .ok (.aload_n 0, 1) := by decide +kernel
theorem dX7_init_54 : decode cX7_init 54 = .ok (.sipush 1608, 3) := by decide +kernel
theorem dX7_init_57 : decode cX7_init 57 = .ok (.newarray .int, 2) := by decide +kernel
theorem dX7_init_59 : decode cX7_init 59 = .ok (.putfield 28, 3) := by decide +kernel
theorem dX7_init_62 : decode cX7_init 62 = .ok (.aload_n 0, 1) := by decide +kernel
theorem dX7_init_63 : decode cX7_init 63 = .ok (.sipush 156, 3) := by decide +kernel
theorem dX7_init_66 : decode cX7_init 66 = .ok (.newarray .int, 2) := by decide +kernel
theorem dX7_init_68 : decode cX7_init 68 = .ok (.putfield 31, 3) := by decide +kernel
theorem dX7_init_71 : decode cX7_init 71 = .ok (.aload_n 0, 1) := by decide +kernel
theorem dX7_init_72 : decode cX7_init 72 = .ok (.iconst 2, 1) := by decide +kernel
theorem dX7_init_73 : decode cX7_init 73 = .ok (.newarray .boolean, 2) := by decide +kernel
theorem dX7_init_75 : decode cX7_init 75 = .ok (.putfield 34, 3) := by decide +kernel
theorem dX7_init_78 : decode cX7_init 78 = .ok (.aload_n 0, 1) := by decide +kernel
theorem dX7_init_79 : decode cX7_init 79 = .ok (.bipush 6, 2) := by decide +kernel
theorem dX7_init_81 : decode cX7_init 81 = .ok (.newarray .int, 2) := by decide +kernel
theorem dX7_init_83 : decode cX7_init 83 = .ok (.putfield 38, 3) := by decide +kernel
theorem dX7_init_86 : decode cX7_init 86 = .ok (.aload_n 0, 1) := by decide +kernel
theorem dX7_init_87 : decode cX7_init 87 = .ok (.bipush 67, 2) := by decide +kernel
theorem dX7_init_89 : decode cX7_init 89 = .ok (.newarray .int, 2) := by decide +kernel
theorem dX7_init_91 : decode cX7_init 91 = .ok (.putfield 41, 3) := by decide +kernel
theorem dX7_init_94 : decode cX7_init 94 = .ok (.aload_n 0, 1) := by decide +kernel
theorem dX7_init_95 : decode cX7_init 95 = .ok (.bipush 16, 2) := by decide +kernel
theorem dX7_init_97 : decode cX7_init 97 = .ok (.newarray .int, 2) := by decide +kernel
theorem dX7_init_99 : decode cX7_init 99 = .ok (.putfield 44, 3) := by decide +kernel
theorem dX7_init_102 : decode cX7_init 102 = .ok (.aload_n 0, 1) := by decide +kernel
theorem dX7_init_103 : decode cX7_init 103 = .ok (.bipush 8, 2) := by decide +kernel
theorem dX7_init_105 : decode cX7_init 105 = .ok (.newarray .int, 2) := by decide +kernel
theorem dX7_init_107 : decode cX7_init 107 = .ok (.putfield 47, 3) := by decide +kernel
theorem dX7_init_110 : decode cX7_init 110 = .ok (.aload_n 0, 1) := by decide +kernel
theorem dX7_init_111 : decode cX7_init 111 = .ok (.bipush 67, 2) := by decide +kernel
theorem dX7_init_113 : decode cX7_init 113 = .ok (.newarray .int, 2) := by decide +kernel
theorem dX7_init_115 : decode cX7_init 115 = .ok (.putfield 50, 3) := by decide +kernel
theorem dX7_init_118 : decode cX7_init 118 = .ok (.aload_n 0, 1) := by decide +kernel
theorem dX7_init_119 : decode cX7_init 119 = .ok (.bipush 6, 2) := by decide +kernel
theorem dX7_init_121 : decode cX7_init 121 = .ok (.newarray .int, 2) := by decide +kernel
theorem dX7_init_123 : decode cX7_init 123 = .ok (.putfield 53, 3) := by decide +kernel
theorem dX7_init_126 : decode cX7_init 126 = .ok (.aload_n 0, 1) := by decide +kernel
theorem dX7_init_127 : decode cX7_init 127 = .ok (.sipush 256, 3) := by decide +kernel
theorem dX7_init_130 : decode cX7_init 130 = .ok (.newarray .int, 2) := by decide +kernel
theorem dX7_init_132 : decode cX7_init 132 = .ok (.putfield 56, 3) := by decide +kernel
theorem dX7_init_135 : decode cX7_init 135 = .ok (.aload_n 0, 1) := by decide +kernel
theorem dX7_init_136 : decode cX7_init 136 = .ok (.sipush 256, 3) := by decide +kernel
theorem dX7_init_139 : decode cX7_init 139 = .ok (.newarray .int, 2) := by decide +kernel
theorem dX7_init_141 : decode cX7_init 141 = .ok (.putfield 59, 3) := by decide +kernel
theorem dX7_init_144 : decode cX7_init 144 = .ok (.iconst 0, 1) := by decide +kernel
theorem dX7_init_145 : decode cX7_init 145 = .ok (.istore_n 1, 1) := by decide +kernel
theorem dX7_init_146 : decode cX7_init 146 = .ok (.iload_n 1, 1) := by decide +kernel
theorem dX7_init_147 : decode cX7_init 147 = .ok (.bipush 8, 2) := by decide +kernel
theorem dX7_init_149 : decode cX7_init 149 = .ok (.if_icmp .ge 16, 3) := by decide +kernel
theorem dX7_init_152 : decode cX7_init 152 = .ok (.aload_n 0, 1) := by decide +kernel
theorem dX7_init_153 : decode cX7_init 153 = .ok (.getfield 13, 3) := by decide +kernel
theorem dX7_init_156 : decode cX7_init 156 = .ok (.iload_n 1, 1) := by decide +kernel
theorem dX7_init_157 : decode cX7_init 157 = .ok (.iconst (-1), 1) := by decide +kernel
theorem dX7_init_158 : decode cX7_init 158 = .ok (.iastore, 1) := by decide +kernel
theorem dX7_init_159 : decode cX7_init 159 = .ok (.iinc 1 1, 3) := by decide +kernel
theorem dX7_init_162 : decode cX7_init 162 = .ok (.goto (-16), 3) := by decide +kernel
theorem dX7_init_165 : decode cX7_init 165 = .ok (.aload_n 0, 1) := by decide +kernel
theorem dX7_init_166 : decode cX7_init 166 = .ok (.invokevirtual 62, 3) := by decide +kernel
theorem dX7_init_169 : decode cX7_init 169 = .ok (.return_, 1) := by decide +kernel
theorem dX7_in_0 : decode cX7_in 0 = .ok (.iload_n 0, 1) := by decide +kernel
theorem dX7_in_1 : decode cX7_in 1 = .ok (.iload_n 1, 1) := by decide +kernel
theorem dX7_in_2 : decode cX7_in 2 = .ok (.if_icmp .lt 12, 3) := by decide +kernel
theorem dX7_in_5 : decode cX7_in 5 = .ok (.iload_n 0, 1) := by decide +kernel
theorem dX7_in_6 : decode cX7_in 6 = .ok (.iload_n 2, 1) := by decide +kernel
theorem dX7_in_7 : decode cX7_in 7 = .ok (.if_icmp .gt 7, 3) := by decide +kernel
theorem dX7_in_10 : decode cX7_in 10 = .ok (.iconst 1, 1) := by decide +kernel
theorem dX7_in_11 : decode cX7_in 11 = .ok (.goto 4, 3) := by decide +kernel
theorem dX7_in_14 : decode cX7_in 14 = .ok (.iconst 0, 1) := by decide +kernel
theorem dX7_in_15 : decode cX7_in 15 = .ok (.ireturn, 1) := by decide +kernel
theorem dX7_bring_0 : decode cX7_bring 0 = .ok (.iconst 0, 1) := by decide +kernel
theorem dX7_bring_1 : decode cX7_bring 1 = .ok (.istore 5, 2) := by decide +kernel
theorem dX7_bring_3 : decode cX7_bring 3 = .ok (.iload 5, 2) := by decide +kernel
theorem dX7_bring_5 : decode cX7_bring 5 = .ok (.iload 4, 2) := by decide +kernel
theorem dX7_bring_7 : decode cX7_bring 7 = .ok (.if_icmp .ge 21, 3) := by decide +kernel
theorem dX7_bring_10 : decode cX7_bring 10 = .ok (.aload_n 2, 1) := by decide +kernel
theorem dX7_bring_11 : decode cX7_bring 11 = .ok (.iload_n 3, 1) := by decide +kernel
theorem dX7_bring_12 : decode cX7_bring 12 = .ok (.iload 5, 2) := by decide +kernel
theorem dX7_bring_14 : decode cX7_bring 14 = .ok (.iadd, 1) := by decide +kernel
theorem dX7_bring_15 : decode cX7_bring 15 = .ok (.aload_n 0, 1) := by decide +kernel
theorem dX7_bring_16 : decode cX7_bring 16 = .ok (.iload_n 1, 1) := by decide +kernel
theorem dX7_bring_17 : decode cX7_bring 17 = .ok (.iload 5, 2) := by decide +kernel
theorem dX7_bring_19 : decode cX7_bring 19 = .ok (.iadd, 1) := by decide +kernel
theorem dX7_bring_20 : decode cX7_bring 20 = .ok (.iaload, 1) := by decide +kernel
theorem dX7_bring_21 : decode cX7_bring 21 = .ok (.iastore, 1) := by decide +kernel
theorem dX7_bring_22 : decode cX7_bring 22 = .ok (.iinc 5 1, 3) := by decide +kernel
theorem dX7_bring_25 : decode cX7_bring 25 = .ok (.goto (-22), 3) := by decide +kernel
theorem dX7_bring_28 : decode cX7_bring 28 = .ok (.return_, 1) := by decide +kernel
theorem dX7_bits_0 : decode cX7_bits 0 = .ok (.iconst 0, 1) := by decide +kernel
theorem dX7_bits_1 : decode cX7_bits 1 = .ok (.istore_n 1, 1) := by decide +kernel
theorem dX7_bits_2 : decode cX7_bits 2 = .ok (.iconst 0, 1) := by decide +kernel
theorem dX7_bits_3 : decode cX7_bits 3 = .ok (.istore_n 2, 1) := by decide +kernel
theorem dX7_bits_4 : decode cX7_bits 4 = .ok (.iload_n 2, 1) := by decide +kernel
theorem dX7_bits_5 : decode cX7_bits 5 = .ok (.bipush 8, 2) := by decide +kernel
theorem dX7_bits_7 : decode cX7_bits 7 = .ok (.if_icmp .ge 17, 3) := by decide +kernel
theorem dX7_bits_10 : decode cX7_bits 10 = .ok (.iload_n 1, 1) := by decide +kernel
theorem dX7_bits_11 : decode cX7_bits 11 = .ok (.iload_n 0, 1) := by decide +kernel
theorem dX7_bits_12 : decode cX7_bits 12 = .ok (.iload_n 2, 1) := by decide +kernel
theorem dX7_bits_13 : decode cX7_bits 13 = .ok (.ishr, 1) := by decide +kernel
theorem dX7_bits_14 : decode cX7_bits 14 = .ok (.iconst 1, 1) := by decide +kernel
theorem dX7_bits_15 : decode cX7_bits 15 = .ok (.iand, 1) := by decide +kernel
theorem dX7_bits_16 : decode cX7_bits 16 = .ok (.iadd, 1) := by decide +kernel
theorem dX7_bits_17 : decode cX7_bits 17 = .ok (.istore_n 1, 1) := by decide +kernel
theorem dX7_bits_18 : decode cX7_bits 18 = .ok (.iinc 2 1, 3) := by decide +kernel
theorem dX7_bits_21 : decode cX7_bits 21 = .ok (.goto (-17), 3) := by decide +kernel
theorem dX7_bits_24 : decode cX7_bits 24 = .ok (.iload_n 1, 1) := by decide +kernel
theorem dX7_bits_25 : decode cX7_bits 25 = .ok (.ireturn, 1) := by decide +kernel
theorem dX7_finds_0 : decode cX7_finds 0 = .ok (.aload_n 0, 1) := by decide +kernel
theorem dX7_finds_1 : decode cX7_finds 1 = .ok (.iload_n 1, 1) := by decide +kernel
theorem dX7_finds_2 : decode cX7_finds 2 = .ok (.putfield 65, 3) := by decide +kernel
theorem dX7_finds_5 : decode cX7_finds 5 = .ok (.ldc 69, 2) := by decide +kernel
theorem dX7_finds_7 : decode cX7_finds 7 = .ok (.iload_n 1, 1) := by decide +kernel
theorem dX7_finds_8 : decode cX7_finds 8 = .ok (.isub, 1) := by decide +kernel
theorem dX7_finds_9 : decode cX7_finds 9 = .ok (.ireturn, 1) := by decide +kernel
theorem dX7_isRow_0 : decode cX7_isRow 0 = .ok (.iload_n 1, 1) := by decide +kernel
theorem dX7_isRow_1 : decode cX7_isRow 1 = .ok (.iconst 0, 1) := by decide +kernel
theorem dX7_isRow_2 : decode cX7_isRow 2 = .ok (.bipush 7, 2) := by decide +kernel
theorem dX7_isRow_4 : decode cX7_isRow 4 = .ok (.invokestatic 70, 3) := by decide +kernel
theorem dX7_isRow_7 : decode cX7_isRow 7 = .ok (.ireturn, 1) := by decide +kernel
theorem dX7_isMarble_0 : decode cX7_isMarble 0 = .ok (.iload_n 1, 1) := by decide +kernel
theorem dX7_isMarble_1 : decode cX7_isMarble 1 = .ok (.iconst 0, 1) := by decide +kernel
theorem dX7_isMarble_2 : decode cX7_isMarble 2 = .ok (.aload_n 0, 1) := by decide +kernel
theorem dX7_isMarble_3 : decode cX7_isMarble 3 = .ok (.getfield 74, 3) := by decide +kernel
theorem dX7_isMarble_6 : decode cX7_isMarble 6 = .ok (.iconst 1, 1) := by decide +kernel
theorem dX7_isMarble_7 : decode cX7_isMarble 7 = .ok (.isub, 1) := by decide +kernel
theorem dX7_isMarble_8 : decode cX7_isMarble 8 = .ok (.invokestatic 70, 3) := by decide +kernel
theorem dX7_isMarble_11 : decode cX7_isMarble 11 = .ok (.ireturn, 1) := by decide +kernel
theorem dX7_isPiece_0 : decode cX7_isPiece 0 = .ok (.iload_n 1, 1) := by decide +kernel
theorem dX7_isPiece_1 : decode cX7_isPiece 1 = .ok (.iconst 0, 1) := by decide +kernel
theorem dX7_isPiece_2 : decode cX7_isPiece 2 = .ok (.aload_n 0, 1) := by decide +kernel
theorem dX7_isPiece_3 : decode cX7_isPiece 3 = .ok (.getfield 77, 3) := by decide +kernel
theorem dX7_isPiece_6 : decode cX7_isPiece 6 = .ok (.iconst 1, 1) := by decide +kernel
theorem dX7_isPiece_7 : decode cX7_isPiece 7 = .ok (.isub, 1) := by decide +kernel
theorem dX7_isPiece_8 : decode cX7_isPiece 8 = .ok (.invokestatic 70, 3) := by decide +kernel
theorem dX7_isPiece_11 : decode cX7_isPiece 11 = .ok (.ireturn, 1) := by decide +kernel
theorem dX7_isNone_0 : decode cX7_isNone 0 = .ok (.aload_n 0, 1) := by decide +kernel
theorem dX7_isNone_1 : decode cX7_isNone 1 = .ok (.getfield 77, 3) := by decide +kernel
theorem dX7_isNone_4 : decode cX7_isNone 4 = .ok (.ifCond .ne 7, 3) := by decide +kernel
theorem dX7_isNone_7 : decode cX7_isNone 7 = .ok (.iconst 1, 1) := by decide +kernel
theorem dX7_isNone_8 : decode cX7_isNone 8 = .ok (.goto 4, 3) := by decide +kernel
theorem dX7_isNone_11 : decode cX7_isNone 11 = .ok (.iconst 0, 1) := by decide +kernel
theorem dX7_isNone_12 : decode cX7_isNone 12 = .ok (.ireturn, 1) := by decide +kernel
theorem dX7_cut_0 : decode cX7_cut 0 = .ok (.iload_n 0, 1) := by decide +kernel
theorem dX7_cut_1 : decode cX7_cut 1 = .ok (.ifCond .ne 13, 3) := by decide +kernel
theorem dX7_cut_4 : decode cX7_cut 4 = .ok (.iload_n 1, 1) := by decide +kernel
theorem dX7_cut_5 : decode cX7_cut 5 = .ok (.bipush 24, 2) := by decide +kernel
theorem dX7_cut_7 : decode cX7_cut 7 = .ok (.ishl, 1) := by decide +kernel
theorem dX7_cut_8 : decode cX7_cut 8 = .ok (.bipush 24, 2) := by decide +kernel
theorem dX7_cut_10 : decode cX7_cut 10 = .ok (.ishr, 1) := by decide +kernel
theorem dX7_cut_11 : decode cX7_cut 11 = .ok (.goto 19, 3) := by decide +kernel
theorem dX7_cut_14 : decode cX7_cut 14 = .ok (.iload_n 0, 1) := by decide +kernel
theorem dX7_cut_15 : decode cX7_cut 15 = .ok (.iconst 1, 1) := by decide +kernel
theorem dX7_cut_16 : decode cX7_cut 16 = .ok (.if_icmp .ne 13, 3) := by decide +kernel
theorem dX7_cut_19 : decode cX7_cut 19 = .ok (.iload_n 1, 1) := by decide +kernel
theorem dX7_cut_20 : decode cX7_cut 20 = .ok (.bipush 16, 2) := by decide +kernel
theorem dX7_cut_22 : decode cX7_cut 22 = .ok (.ishl, 1) := by decide +kernel
theorem dX7_cut_23 : decode cX7_cut 23 = .ok (.bipush 16, 2) := by decide +kernel
theorem dX7_cut_25 : decode cX7_cut 25 = .ok (.ishr, 1) := by decide +kernel
theorem dX7_cut_26 : decode cX7_cut 26 = .ok (.goto 4, 3) := by decide +kernel
theorem dX7_cut_29 : decode cX7_cut 29 = .ok (.iload_n 1, 1) := by decide +kernel
theorem dX7_cut_30 : decode cX7_cut 30 = .ok (.ireturn, 1) := by decide +kernel
theorem dX7_row_0 : decode cX7_row 0 = .ok (.aload_n 0, 1) := by decide +kernel
theorem dX7_row_1 : decode cX7_row 1 = .ok (.iload_n 1, 1) := by decide +kernel
theorem dX7_row_2 : decode cX7_row 2 = .ok (.invokevirtual 80, 3) := by decide +kernel
theorem dX7_row_5 : decode cX7_row 5 = .ok (.ifCond .eq 18, 3) := by decide +kernel
theorem dX7_row_8 : decode cX7_row 8 = .ok (.iload_n 2, 1) := by decide +kernel
theorem dX7_row_9 : decode cX7_row 9 = .ok (.iconst 0, 1) := by decide +kernel
theorem dX7_row_10 : decode cX7_row 10 = .ok (.iconst 2, 1) := by decide +kernel
theorem dX7_row_11 : decode cX7_row 11 = .ok (.invokestatic 70, 3) := by decide +kernel
theorem dX7_row_14 : decode cX7_row 14 = .ok (.ifCond .eq 9, 3) := by decide +kernel
theorem dX7_row_17 : decode cX7_row 17 = .ok (.iload_n 3, 1) := by decide +kernel
theorem dX7_row_18 : decode cX7_row 18 = .ok (.bipush 40, 2) := by decide +kernel
theorem dX7_row_20 : decode cX7_row 20 = .ok (.if_icmp .le 6, 3) := by decide +kernel
theorem dX7_row_23 : decode cX7_row 23 = .ok (.ldc 84, 2) := by decide +kernel
theorem dX7_row_25 : decode cX7_row 25 = .ok (.ireturn, 1) := by decide +kernel
theorem dX7_row_26 : decode cX7_row 26 = .ok (.iload_n 3, 1) := by decide +kernel
theorem dX7_row_27 : decode cX7_row 27 = .ok (.ifCond .ge 9, 3) := by decide +kernel
theorem dX7_row_30 : decode cX7_row 30 = .ok (.aload_n 0, 1) := by decide +kernel
theorem dX7_row_31 : decode cX7_row 31 = .ok (.iconst 4, 1) := by decide +kernel
theorem dX7_row_32 : decode cX7_row 32 = .ok (.invokevirtual 85, 3) := by decide +kernel
theorem dX7_row_35 : decode cX7_row 35 = .ok (.ireturn, 1) := by decide +kernel
theorem dX7_row_36 : decode cX7_row 36 = .ok (.aload_n 0, 1) := by decide +kernel
theorem dX7_row_37 : decode cX7_row 37 = .ok (.iconst 0, 1) := by decide +kernel
theorem dX7_row_38 : decode cX7_row 38 = .ok (.putfield 65, 3) := by decide +kernel
theorem dX7_row_41 : decode cX7_row 41 = .ok (.aload_n 0, 1) := by decide +kernel
theorem dX7_row_42 : decode cX7_row 42 = .ok (.getfield 7, 3) := by decide +kernel
theorem dX7_row_45 : decode cX7_row 45 = .ok (.iload_n 1, 1) := by decide +kernel
theorem dX7_row_46 : decode cX7_row 46 = .ok (.iload_n 2, 1) := by decide +kernel
theorem dX7_row_47 : decode cX7_row 47 = .ok (.iastore, 1) := by decide +kernel
theorem dX7_row_48 : decode cX7_row 48 = .ok (.aload_n 0, 1) := by decide +kernel
theorem dX7_row_49 : decode cX7_row 49 = .ok (.getfield 13, 3) := by decide +kernel
theorem dX7_row_52 : decode cX7_row 52 = .ok (.iload_n 1, 1) := by decide +kernel
theorem dX7_row_53 : decode cX7_row 53 = .ok (.iload_n 3, 1) := by decide +kernel
theorem dX7_row_54 : decode cX7_row 54 = .ok (.iastore, 1) := by decide +kernel
theorem dX7_row_55 : decode cX7_row 55 = .ok (.iconst 0, 1) := by decide +kernel
theorem dX7_row_56 : decode cX7_row 56 = .ok (.istore 4, 2) := by decide +kernel
theorem dX7_row_58 : decode cX7_row 58 = .ok (.iload 4, 2) := by decide +kernel
theorem dX7_row_60 : decode cX7_row 60 = .ok (.iload_n 3, 1) := by decide +kernel
theorem dX7_row_61 : decode cX7_row 61 = .ok (.if_icmp .ge 22, 3) := by decide +kernel
theorem dX7_row_64 : decode cX7_row 64 = .ok (.aload_n 0, 1) := by decide +kernel
theorem dX7_row_65 : decode cX7_row 65 = .ok (.getfield 16, 3) := by decide +kernel
theorem dX7_row_68 : decode cX7_row 68 = .ok (.bipush 40, 2) := by decide +kernel
theorem dX7_row_70 : decode cX7_row 70 = .ok (.iload_n 1, 1) := by decide +kernel
theorem dX7_row_71 : decode cX7_row 71 = .ok (.imul, 1) := by decide +kernel
theorem dX7_row_72 : decode cX7_row 72 = .ok (.iload 4, 2) := by decide +kernel
theorem dX7_row_74 : decode cX7_row 74 = .ok (.iadd, 1) := by decide +kernel
theorem dX7_row_75 : decode cX7_row 75 = .ok (.iconst 0, 1) := by decide +kernel
theorem dX7_row_76 : decode cX7_row 76 = .ok (.iastore, 1) := by decide +kernel
theorem dX7_row_77 : decode cX7_row 77 = .ok (.iinc 4 1, 3) := by decide +kernel
theorem dX7_row_80 : decode cX7_row 80 = .ok (.goto (-22), 3) := by decide +kernel
theorem dX7_row_83 : decode cX7_row 83 = .ok (.iload_n 3, 1) := by decide +kernel
theorem dX7_row_84 : decode cX7_row 84 = .ok (.ireturn, 1) := by decide +kernel
theorem dX7_set_0 : decode cX7_set 0 = .ok (.aload_n 0, 1) := by decide +kernel
theorem dX7_set_1 : decode cX7_set 1 = .ok (.iload_n 1, 1) := by decide +kernel
theorem dX7_set_2 : decode cX7_set 2 = .ok (.invokevirtual 80, 3) := by decide +kernel
theorem dX7_set_5 : decode cX7_set 5 = .ok (.ifCond .ne 6, 3) := by decide +kernel
theorem dX7_set_8 : decode cX7_set 8 = .ok (.ldc 84, 2) := by decide +kernel
theorem dX7_set_10 : decode cX7_set 10 = .ok (.ireturn, 1) := by decide +kernel
theorem dX7_set_11 : decode cX7_set 11 = .ok (.aload_n 0, 1) := by decide +kernel
theorem dX7_set_12 : decode cX7_set 12 = .ok (.getfield 13, 3) := by decide +kernel
theorem dX7_set_15 : decode cX7_set 15 = .ok (.iload_n 1, 1) := by decide +kernel
theorem dX7_set_16 : decode cX7_set 16 = .ok (.iaload, 1) := by decide +kernel
theorem dX7_set_17 : decode cX7_set 17 = .ok (.ifCond .ge 9, 3) := by decide +kernel
theorem dX7_set_20 : decode cX7_set 20 = .ok (.aload_n 0, 1) := by decide +kernel
theorem dX7_set_21 : decode cX7_set 21 = .ok (.iconst 1, 1) := by decide +kernel
theorem dX7_set_22 : decode cX7_set 22 = .ok (.invokevirtual 85, 3) := by decide +kernel
theorem dX7_set_25 : decode cX7_set 25 = .ok (.ireturn, 1) := by decide +kernel
theorem dX7_set_26 : decode cX7_set 26 = .ok (.iload_n 2, 1) := by decide +kernel
theorem dX7_set_27 : decode cX7_set 27 = .ok (.iconst 0, 1) := by decide +kernel
theorem dX7_set_28 : decode cX7_set 28 = .ok (.aload_n 0, 1) := by decide +kernel
theorem dX7_set_29 : decode cX7_set 29 = .ok (.getfield 13, 3) := by decide +kernel
theorem dX7_set_32 : decode cX7_set 32 = .ok (.iload_n 1, 1) := by decide +kernel
theorem dX7_set_33 : decode cX7_set 33 = .ok (.iaload, 1) := by decide +kernel
theorem dX7_set_34 : decode cX7_set 34 = .ok (.iconst 1, 1) := by decide +kernel
theorem dX7_set_35 : decode cX7_set 35 = .ok (.isub, 1) := by decide +kernel
theorem dX7_set_36 : decode cX7_set 36 = .ok (.invokestatic 70, 3) := by decide +kernel
theorem dX7_set_39 : decode cX7_set 39 = .ok (.ifCond .ne 9, 3) := by decide +kernel
theorem dX7_set_42 : decode cX7_set 42 = .ok (.aload_n 0, 1) := by decide +kernel
theorem dX7_set_43 : decode cX7_set 43 = .ok (.iconst 2, 1) := by decide +kernel
theorem dX7_set_44 : decode cX7_set 44 = .ok (.invokevirtual 85, 3) := by decide +kernel
theorem dX7_set_47 : decode cX7_set 47 = .ok (.ireturn, 1) := by decide +kernel
theorem dX7_set_48 : decode cX7_set 48 = .ok (.aload_n 0, 1) := by decide +kernel
theorem dX7_set_49 : decode cX7_set 49 = .ok (.iconst 0, 1) := by decide +kernel
theorem dX7_set_50 : decode cX7_set 50 = .ok (.putfield 65, 3) := by decide +kernel
theorem dX7_set_53 : decode cX7_set 53 = .ok (.aload_n 0, 1) := by decide +kernel
theorem dX7_set_54 : decode cX7_set 54 = .ok (.getfield 16, 3) := by decide +kernel
theorem dX7_set_57 : decode cX7_set 57 = .ok (.bipush 40, 2) := by decide +kernel
theorem dX7_set_59 : decode cX7_set 59 = .ok (.iload_n 1, 1) := by decide +kernel
theorem dX7_set_60 : decode cX7_set 60 = .ok (.imul, 1) := by decide +kernel
theorem dX7_set_61 : decode cX7_set 61 = .ok (.iload_n 2, 1) := by decide +kernel
theorem dX7_set_62 : decode cX7_set 62 = .ok (.iadd, 1) := by decide +kernel
theorem dX7_set_63 : decode cX7_set 63 = .ok (.aload_n 0, 1) := by decide +kernel
theorem dX7_set_64 : decode cX7_set 64 = .ok (.getfield 7, 3) := by decide +kernel
theorem dX7_set_67 : decode cX7_set 67 = .ok (.iload_n 1, 1) := by decide +kernel
theorem dX7_set_68 : decode cX7_set 68 = .ok (.iaload, 1) := by decide +kernel
theorem dX7_set_69 : decode cX7_set 69 = .ok (.iload_n 3, 1) := by decide +kernel
theorem dX7_set_70 : decode cX7_set 70 = .ok (.invokestatic 89, 3) := by decide +kernel
theorem dX7_set_73 : decode cX7_set 73 = .ok (.iastore, 1) := by decide +kernel
theorem dX7_set_74 : decode cX7_set 74 = .ok (.aload_n 0, 1) := by decide +kernel
theorem dX7_set_75 : decode cX7_set 75 = .ok (.getfield 16, 3) := by decide +kernel
theorem dX7_set_78 : decode cX7_set 78 = .ok (.bipush 40, 2) := by decide +kernel
theorem dX7_set_80 : decode cX7_set 80 = .ok (.iload_n 1, 1) := by decide +kernel
theorem dX7_set_81 : decode cX7_set 81 = .ok (.imul, 1) := by decide +kernel
theorem dX7_set_82 : decode cX7_set 82 = .ok (.iload_n 2, 1) := by decide +kernel
theorem dX7_set_83 : decode cX7_set 83 = .ok (.iadd, 1) := by decide +kernel
theorem dX7_set_84 : decode cX7_set 84 = .ok (.iaload, 1) := by decide +kernel
theorem dX7_set_85 : decode cX7_set 85 = .ok (.ireturn, 1) := by decide +kernel
theorem dX7_isPart_0 : decode cX7_isPart 0 = .ok (.iload_n 0, 1) := by decide +kernel
theorem dX7_isPart_1 : decode cX7_isPart 1 = .ok (.ifCond .lt 23, 3) := by decide +kernel
theorem dX7_isPart_4 : decode cX7_isPart 4 = .ok (.iload_n 1, 1) := by decide +kernel
theorem dX7_isPart_5 : decode cX7_isPart 5 = .ok (.ifCond .lt 19, 3) := by decide +kernel
theorem dX7_isPart_8 : decode cX7_isPart 8 = .ok (.iload_n 1, 1) := by decide +kernel
theorem dX7_isPart_9 : decode cX7_isPart 9 = .ok (.iload_n 2, 1) := by decide +kernel
theorem dX7_isPart_10 : decode cX7_isPart 10 = .ok (.if_icmp .gt 14, 3) := by decide +kernel
theorem dX7_isPart_13 : decode cX7_isPart 13 = .ok (.iload_n 0, 1) := by decide +kernel
theorem dX7_isPart_14 : decode cX7_isPart 14 = .ok (.iload_n 2, 1) := by decide +kernel
theorem dX7_isPart_15 : decode cX7_isPart 15 = .ok (.iload_n 1, 1) := by decide +kernel
theorem dX7_isPart_16 : decode cX7_isPart 16 = .ok (.isub, 1) := by decide +kernel
theorem dX7_isPart_17 : decode cX7_isPart 17 = .ok (.if_icmp .gt 7, 3) := by decide +kernel
theorem dX7_isPart_20 : decode cX7_isPart 20 = .ok (.iconst 1, 1) := by decide +kernel
theorem dX7_isPart_21 : decode cX7_isPart 21 = .ok (.goto 4, 3) := by decide +kernel
theorem dX7_isPart_24 : decode cX7_isPart 24 = .ok (.iconst 0, 1) := by decide +kernel
theorem dX7_isPart_25 : decode cX7_isPart 25 = .ok (.ireturn, 1) := by decide +kernel
theorem dX7_copy_0 : decode cX7_copy 0 = .ok (.aload_n 0, 1) := by decide +kernel
theorem dX7_copy_1 : decode cX7_copy 1 = .ok (.iload_n 1, 1) := by decide +kernel
theorem dX7_copy_2 : decode cX7_copy 2 = .ok (.invokevirtual 80, 3) := by decide +kernel
theorem dX7_copy_5 : decode cX7_copy 5 = .ok (.ifCond .eq 11, 3) := by decide +kernel
theorem dX7_copy_8 : decode cX7_copy 8 = .ok (.aload_n 0, 1) := by decide +kernel
theorem dX7_copy_9 : decode cX7_copy 9 = .ok (.iload_n 3, 1) := by decide +kernel
theorem dX7_copy_10 : decode cX7_copy 10 = .ok (.invokevirtual 80, 3) := by decide +kernel
theorem dX7_copy_13 : decode cX7_copy 13 = .ok (.ifCond .ne 6, 3) := by decide +kernel
theorem dX7_copy_16 : decode cX7_copy 16 = .ok (.ldc 84, 2) := by decide +kernel
theorem dX7_copy_18 : decode cX7_copy 18 = .ok (.ireturn, 1) := by decide +kernel
theorem dX7_copy_19 : decode cX7_copy 19 = .ok (.aload_n 0, 1) := by decide +kernel
theorem dX7_copy_20 : decode cX7_copy 20 = .ok (.getfield 13, 3) := by decide +kernel
theorem dX7_copy_23 : decode cX7_copy 23 = .ok (.iload_n 1, 1) := by decide +kernel
theorem dX7_copy_24 : decode cX7_copy 24 = .ok (.iaload, 1) := by decide +kernel
theorem dX7_copy_25 : decode cX7_copy 25 = .ok (.ifCond .lt 12, 3) := by decide +kernel
theorem dX7_copy_28 : decode cX7_copy 28 = .ok (.aload_n 0, 1) := by decide +kernel
theorem dX7_copy_29 : decode cX7_copy 29 = .ok (.getfield 13, 3) := by decide +kernel
theorem dX7_copy_32 : decode cX7_copy 32 = .ok (.iload_n 3, 1) := by decide +kernel
theorem dX7_copy_33 : decode cX7_copy 33 = .ok (.iaload, 1) := by decide +kernel
theorem dX7_copy_34 : decode cX7_copy 34 = .ok (.ifCond .ge 9, 3) := by decide +kernel
theorem dX7_copy_37 : decode cX7_copy 37 = .ok (.aload_n 0, 1) := by decide +kernel
theorem dX7_copy_38 : decode cX7_copy 38 = .ok (.iconst 1, 1) := by decide +kernel
theorem dX7_copy_39 : decode cX7_copy 39 = .ok (.invokevirtual 85, 3) := by decide +kernel
theorem dX7_copy_42 : decode cX7_copy 42 = .ok (.ireturn, 1) := by decide +kernel
theorem dX7_copy_43 : decode cX7_copy 43 = .ok (.aload_n 0, 1) := by decide +kernel
theorem dX7_copy_44 : decode cX7_copy 44 = .ok (.getfield 7, 3) := by decide +kernel
theorem dX7_copy_47 : decode cX7_copy 47 = .ok (.iload_n 1, 1) := by decide +kernel
theorem dX7_copy_48 : decode cX7_copy 48 = .ok (.iaload, 1) := by decide +kernel
theorem dX7_copy_49 : decode cX7_copy 49 = .ok (.aload_n 0, 1) := by decide +kernel
theorem dX7_copy_50 : decode cX7_copy 50 = .ok (.getfield 7, 3) := by decide +kernel
theorem dX7_copy_53 : decode cX7_copy 53 = .ok (.iload_n 3, 1) := by decide +kernel
theorem dX7_copy_54 : decode cX7_copy 54 = .ok (.iaload, 1) := by decide +kernel
theorem dX7_copy_55 : decode cX7_copy 55 = .ok (.if_icmp .eq 9, 3) := by decide +kernel
theorem dX7_copy_58 : decode cX7_copy 58 = .ok (.aload_n 0, 1) := by decide +kernel
theorem dX7_copy_59 : decode cX7_copy 59 = .ok (.iconst 5, 1) := by decide +kernel
theorem dX7_copy_60 : decode cX7_copy 60 = .ok (.invokevirtual 85, 3) := by decide +kernel
theorem dX7_copy_63 : decode cX7_copy 63 = .ok (.ireturn, 1) := by decide +kernel
theorem dX7_copy_64 : decode cX7_copy 64 = .ok (.iload_n 2, 1) := by decide +kernel
theorem dX7_copy_65 : decode cX7_copy 65 = .ok (.iload 5, 2) := by decide +kernel
theorem dX7_copy_67 : decode cX7_copy 67 = .ok (.aload_n 0, 1) := by decide +kernel
theorem dX7_copy_68 : decode cX7_copy 68 = .ok (.getfield 13, 3) := by decide +kernel
theorem dX7_copy_71 : decode cX7_copy 71 = .ok (.iload_n 1, 1) := by decide +kernel
theorem dX7_copy_72 : decode cX7_copy 72 = .ok (.iaload, 1) := by decide +kernel
theorem dX7_copy_73 : decode cX7_copy 73 = .ok (.invokestatic 93, 3) := by decide +kernel
theorem dX7_copy_76 : decode cX7_copy 76 = .ok (.ifCond .eq 19, 3) := by decide +kernel
theorem dX7_copy_79 : decode cX7_copy 79 = .ok (.iload 4, 2) := by decide +kernel
theorem dX7_copy_81 : decode cX7_copy 81 = .ok (.iload 5, 2) := by decide +kernel
theorem dX7_copy_83 : decode cX7_copy 83 = .ok (.aload_n 0, 1) := by decide +kernel
theorem dX7_copy_84 : decode cX7_copy 84 = .ok (.getfield 13, 3) := by decide +kernel
theorem dX7_copy_87 : decode cX7_copy 87 = .ok (.iload_n 3, 1) := by decide +kernel
theorem dX7_copy_88 : decode cX7_copy 88 = .ok (.iaload, 1) := by decide +kernel
theorem dX7_copy_89 : decode cX7_copy 89 = .ok (.invokestatic 93, 3) := by decide +kernel
theorem dX7_copy_92 : decode cX7_copy 92 = .ok (.ifCond .ne 9, 3) := by decide +kernel
theorem dX7_copy_95 : decode cX7_copy 95 = .ok (.aload_n 0, 1) := by decide +kernel
theorem dX7_copy_96 : decode cX7_copy 96 = .ok (.iconst 2, 1) := by decide +kernel
theorem dX7_copy_97 : decode cX7_copy 97 = .ok (.invokevirtual 85, 3) := by decide +kernel
theorem dX7_copy_100 : decode cX7_copy 100 = .ok (.ireturn, 1) := by decide +kernel
theorem dX7_copy_101 : decode cX7_copy 101 = .ok (.aload_n 0, 1) := by decide +kernel
theorem dX7_copy_102 : decode cX7_copy 102 = .ok (.iconst 0, 1) := by decide +kernel
theorem dX7_copy_103 : decode cX7_copy 103 = .ok (.putfield 65, 3) := by decide +kernel
theorem dX7_copy_106 : decode cX7_copy 106 = .ok (.iload 4, 2) := by decide +kernel
theorem dX7_copy_108 : decode cX7_copy 108 = .ok (.iload_n 2, 1) := by decide +kernel
theorem dX7_copy_109 : decode cX7_copy 109 = .ok (.if_icmp .le 7, 3) := by decide +kernel
theorem dX7_copy_112 : decode cX7_copy 112 = .ok (.iconst 1, 1) := by decide +kernel
theorem dX7_copy_113 : decode cX7_copy 113 = .ok (.goto 4, 3) := by decide +kernel
theorem dX7_copy_116 : decode cX7_copy 116 = .ok (.iconst 0, 1) := by decide +kernel
theorem dX7_copy_117 : decode cX7_copy 117 = .ok (.istore 6, 2) := by decide +kernel
theorem dX7_copy_119 : decode cX7_copy 119 = .ok (.iconst 0, 1) := by decide +kernel
theorem dX7_copy_120 : decode cX7_copy 120 = .ok (.istore 7, 2) := by decide +kernel
theorem dX7_copy_122 : decode cX7_copy 122 = .ok (.iload 7, 2) := by decide +kernel
theorem dX7_copy_124 : decode cX7_copy 124 = .ok (.iload 5, 2) := by decide +kernel
theorem dX7_copy_126 : decode cX7_copy 126 = .ok (.if_icmp .ge 57, 3) := by decide +kernel
theorem dX7_copy_129 : decode cX7_copy 129 = .ok (.iload 6, 2) := by decide +kernel
theorem dX7_copy_131 : decode cX7_copy 131 = .ok (.ifCond .eq 13, 3) := by decide +kernel
theorem dX7_copy_134 : decode cX7_copy 134 = .ok (.iload 5, 2) := by decide +kernel
theorem dX7_copy_136 : decode cX7_copy 136 = .ok (.iconst 1, 1) := by decide +kernel
theorem dX7_copy_137 : decode cX7_copy 137 = .ok (.isub, 1) := by decide +kernel
theorem dX7_copy_138 : decode cX7_copy 138 = .ok (.iload 7, 2) := by decide +kernel
theorem dX7_copy_140 : decode cX7_copy 140 = .ok (.isub, 1) := by decide +kernel
theorem dX7_copy_141 : decode cX7_copy 141 = .ok (.goto 5, 3) := by decide +kernel
theorem dX7_copy_144 : decode cX7_copy 144 = .ok (.iload 7, 2) := by decide +kernel
theorem dX7_copy_146 : decode cX7_copy 146 = .ok (.istore 8, 2) := by decide +kernel
theorem dX7_copy_148 : decode cX7_copy 148 = .ok (.aload_n 0, 1) := by decide +kernel
theorem dX7_copy_149 : decode cX7_copy 149 = .ok (.getfield 16, 3) := by decide +kernel
theorem dX7_copy_152 : decode cX7_copy 152 = .ok (.bipush 40, 2) := by decide +kernel
theorem dX7_copy_154 : decode cX7_copy 154 = .ok (.iload_n 3, 1) := by decide +kernel
theorem dX7_copy_155 : decode cX7_copy 155 = .ok (.imul, 1) := by decide +kernel
theorem dX7_copy_156 : decode cX7_copy 156 = .ok (.iload 4, 2) := by decide +kernel
theorem dX7_copy_158 : decode cX7_copy 158 = .ok (.iadd, 1) := by decide +kernel
theorem dX7_copy_159 : decode cX7_copy 159 = .ok (.iload 8, 2) := by decide +kernel
theorem dX7_copy_161 : decode cX7_copy 161 = .ok (.iadd, 1) := by decide +kernel
theorem dX7_copy_162 : decode cX7_copy 162 = .ok (.aload_n 0, 1) := by decide +kernel
theorem dX7_copy_163 : decode cX7_copy 163 = .ok (.getfield 16, 3) := by decide +kernel
theorem dX7_copy_166 : decode cX7_copy 166 = .ok (.bipush 40, 2) := by decide +kernel
theorem dX7_copy_168 : decode cX7_copy 168 = .ok (.iload_n 1, 1) := by decide +kernel
theorem dX7_copy_169 : decode cX7_copy 169 = .ok (.imul, 1) := by decide +kernel
theorem dX7_copy_170 : decode cX7_copy 170 = .ok (.iload_n 2, 1) := by decide +kernel
theorem dX7_copy_171 : decode cX7_copy 171 = .ok (.iadd, 1) := by decide +kernel
theorem dX7_copy_172 : decode cX7_copy 172 = .ok (.iload 8, 2) := by decide +kernel
theorem dX7_copy_174 : decode cX7_copy 174 = .ok (.iadd, 1) := by decide +kernel
theorem dX7_copy_175 : decode cX7_copy 175 = .ok (.iaload, 1) := by decide +kernel
theorem dX7_copy_176 : decode cX7_copy 176 = .ok (.iastore, 1) := by decide +kernel
theorem dX7_copy_177 : decode cX7_copy 177 = .ok (.iinc 7 1, 3) := by decide +kernel
theorem dX7_copy_180 : decode cX7_copy 180 = .ok (.goto (-58), 3) := by decide +kernel
theorem dX7_copy_183 : decode cX7_copy 183 = .ok (.iload 5, 2) := by decide +kernel
theorem dX7_copy_185 : decode cX7_copy 185 = .ok (.ireturn, 1) := by decide +kernel
theorem dX7_drop_0 : decode cX7_drop 0 = .ok (.aload_n 0, 1) := by decide +kernel
theorem dX7_drop_1 : decode cX7_drop 1 = .ok (.iload_n 1, 1) := by decide +kernel
theorem dX7_drop_2 : decode cX7_drop 2 = .ok (.invokevirtual 80, 3) := by decide +kernel
theorem dX7_drop_5 : decode cX7_drop 5 = .ok (.ifCond .ne 6, 3) := by decide +kernel
theorem dX7_drop_8 : decode cX7_drop 8 = .ok (.ldc 84, 2) := by decide +kernel
theorem dX7_drop_10 : decode cX7_drop 10 = .ok (.ireturn, 1) := by decide +kernel
theorem dX7_drop_11 : decode cX7_drop 11 = .ok (.aload_n 0, 1) := by decide +kernel
theorem dX7_drop_12 : decode cX7_drop 12 = .ok (.getfield 13, 3) := by decide +kernel
theorem dX7_drop_15 : decode cX7_drop 15 = .ok (.iload_n 1, 1) := by decide +kernel
theorem dX7_drop_16 : decode cX7_drop 16 = .ok (.iaload, 1) := by decide +kernel
theorem dX7_drop_17 : decode cX7_drop 17 = .ok (.ifCond .ge 9, 3) := by decide +kernel
theorem dX7_drop_20 : decode cX7_drop 20 = .ok (.aload_n 0, 1) := by decide +kernel
theorem dX7_drop_21 : decode cX7_drop 21 = .ok (.iconst 1, 1) := by decide +kernel
theorem dX7_drop_22 : decode cX7_drop 22 = .ok (.invokevirtual 85, 3) := by decide +kernel
theorem dX7_drop_25 : decode cX7_drop 25 = .ok (.ireturn, 1) := by decide +kernel
theorem dX7_drop_26 : decode cX7_drop 26 = .ok (.aload_n 0, 1) := by decide +kernel
theorem dX7_drop_27 : decode cX7_drop 27 = .ok (.iconst 0, 1) := by decide +kernel
theorem dX7_drop_28 : decode cX7_drop 28 = .ok (.putfield 65, 3) := by decide +kernel
theorem dX7_drop_31 : decode cX7_drop 31 = .ok (.aload_n 0, 1) := by decide +kernel
theorem dX7_drop_32 : decode cX7_drop 32 = .ok (.getfield 13, 3) := by decide +kernel
theorem dX7_drop_35 : decode cX7_drop 35 = .ok (.iload_n 1, 1) := by decide +kernel
theorem dX7_drop_36 : decode cX7_drop 36 = .ok (.iaload, 1) := by decide +kernel
theorem dX7_drop_37 : decode cX7_drop 37 = .ok (.istore_n 2, 1) := by decide +kernel
theorem dX7_drop_38 : decode cX7_drop 38 = .ok (.aload_n 0, 1) := by decide +kernel
theorem dX7_drop_39 : decode cX7_drop 39 = .ok (.getfield 13, 3) := by decide +kernel
theorem dX7_drop_42 : decode cX7_drop 42 = .ok (.iload_n 1, 1) := by decide +kernel
theorem dX7_drop_43 : decode cX7_drop 43 = .ok (.iconst (-1), 1) := by decide +kernel
theorem dX7_drop_44 : decode cX7_drop 44 = .ok (.iastore, 1) := by decide +kernel
theorem dX7_drop_45 : decode cX7_drop 45 = .ok (.iload_n 2, 1) := by decide +kernel
theorem dX7_drop_46 : decode cX7_drop 46 = .ok (.ireturn, 1) := by decide +kernel
theorem dX7_feed_0 : decode cX7_feed 0 = .ok (.iload_n 1, 1) := by decide +kernel
theorem dX7_feed_1 : decode cX7_feed 1 = .ok (.iconst 0, 1) := by decide +kernel
theorem dX7_feed_2 : decode cX7_feed 2 = .ok (.sipush 255, 3) := by decide +kernel
theorem dX7_feed_5 : decode cX7_feed 5 = .ok (.invokestatic 70, 3) := by decide +kernel
theorem dX7_feed_8 : decode cX7_feed 8 = .ok (.ifCond .ne 6, 3) := by decide +kernel
theorem dX7_feed_11 : decode cX7_feed 11 = .ok (.ldc 84, 2) := by decide +kernel
theorem dX7_feed_13 : decode cX7_feed 13 = .ok (.ireturn, 1) := by decide +kernel
theorem dX7_feed_14 : decode cX7_feed 14 = .ok (.aload_n 0, 1) := by decide +kernel
theorem dX7_feed_15 : decode cX7_feed 15 = .ok (.getfield 96, 3) := by decide +kernel
theorem dX7_feed_18 : decode cX7_feed 18 = .ok (.bipush 110, 2) := by decide +kernel
theorem dX7_feed_20 : decode cX7_feed 20 = .ok (.if_icmp .ne 6, 3) := by decide +kernel
theorem dX7_feed_23 : decode cX7_feed 23 = .ok (.ldc 99, 2) := by decide +kernel
theorem dX7_feed_25 : decode cX7_feed 25 = .ok (.ireturn, 1) := by decide +kernel
theorem dX7_feed_26 : decode cX7_feed 26 = .ok (.aload_n 0, 1) := by decide +kernel
theorem dX7_feed_27 : decode cX7_feed 27 = .ok (.getfield 19, 3) := by decide +kernel
theorem dX7_feed_30 : decode cX7_feed 30 = .ok (.aload_n 0, 1) := by decide +kernel
theorem dX7_feed_31 : decode cX7_feed 31 = .ok (.getfield 96, 3) := by decide +kernel
theorem dX7_feed_34 : decode cX7_feed 34 = .ok (.iload_n 1, 1) := by decide +kernel
theorem dX7_feed_35 : decode cX7_feed 35 = .ok (.iastore, 1) := by decide +kernel
theorem dX7_feed_36 : decode cX7_feed 36 = .ok (.aload_n 0, 1) := by decide +kernel
theorem dX7_feed_37 : decode cX7_feed 37 = .ok (.dup, 1) := by decide +kernel
theorem dX7_feed_38 : decode cX7_feed 38 = .ok (.getfield 96, 3) := by decide +kernel
theorem dX7_feed_41 : decode cX7_feed 41 = .ok (.iconst 1, 1) := by decide +kernel
theorem dX7_feed_42 : decode cX7_feed 42 = .ok (.iadd, 1) := by decide +kernel
theorem dX7_feed_43 : decode cX7_feed 43 = .ok (.putfield 96, 3) := by decide +kernel
theorem dX7_feed_46 : decode cX7_feed 46 = .ok (.aload_n 0, 1) := by decide +kernel
theorem dX7_feed_47 : decode cX7_feed 47 = .ok (.getfield 96, 3) := by decide +kernel
theorem dX7_feed_50 : decode cX7_feed 50 = .ok (.ireturn, 1) := by decide +kernel
theorem dX7_here_0 : decode cX7_here 0 = .ok (.aload_n 0, 1) := by decide +kernel
theorem dX7_here_1 : decode cX7_here 1 = .ok (.getfield 100, 3) := by decide +kernel
theorem dX7_here_4 : decode cX7_here 4 = .ok (.aload_n 0, 1) := by decide +kernel
theorem dX7_here_5 : decode cX7_here 5 = .ok (.getfield 96, 3) := by decide +kernel
theorem dX7_here_8 : decode cX7_here 8 = .ok (.if_icmp .ge 15, 3) := by decide +kernel
theorem dX7_here_11 : decode cX7_here 11 = .ok (.aload_n 0, 1) := by decide +kernel
theorem dX7_here_12 : decode cX7_here 12 = .ok (.getfield 19, 3) := by decide +kernel
theorem dX7_here_15 : decode cX7_here 15 = .ok (.aload_n 0, 1) := by decide +kernel
theorem dX7_here_16 : decode cX7_here 16 = .ok (.getfield 100, 3) := by decide +kernel
theorem dX7_here_19 : decode cX7_here 19 = .ok (.iaload, 1) := by decide +kernel
theorem dX7_here_20 : decode cX7_here 20 = .ok (.goto 4, 3) := by decide +kernel
theorem dX7_here_23 : decode cX7_here 23 = .ok (.iconst (-1), 1) := by decide +kernel
theorem dX7_here_24 : decode cX7_here 24 = .ok (.ireturn, 1) := by decide +kernel
theorem dX7_fails_0 : decode cX7_fails 0 = .ok (.aload_n 0, 1) := by decide +kernel
theorem dX7_fails_1 : decode cX7_fails 1 = .ok (.getfield 103, 3) := by decide +kernel
theorem dX7_fails_4 : decode cX7_fails 4 = .ok (.ifCond .ne 16, 3) := by decide +kernel
theorem dX7_fails_7 : decode cX7_fails 7 = .ok (.aload_n 0, 1) := by decide +kernel
theorem dX7_fails_8 : decode cX7_fails 8 = .ok (.iload_n 1, 1) := by decide +kernel
theorem dX7_fails_9 : decode cX7_fails 9 = .ok (.putfield 103, 3) := by decide +kernel
theorem dX7_fails_12 : decode cX7_fails 12 = .ok (.aload_n 0, 1) := by decide +kernel
theorem dX7_fails_13 : decode cX7_fails 13 = .ok (.aload_n 0, 1) := by decide +kernel
theorem dX7_fails_14 : decode cX7_fails 14 = .ok (.getfield 100, 3) := by decide +kernel
theorem dX7_fails_17 : decode cX7_fails 17 = .ok (.putfield 106, 3) := by decide +kernel
theorem dX7_fails_20 : decode cX7_fails 20 = .ok (.return_, 1) := by decide +kernel
theorem dX7_sign_0 : decode cX7_sign 0 = .ok (.aload_n 0, 1) := by decide +kernel
theorem dX7_sign_1 : decode cX7_sign 1 = .ok (.getfield 103, 3) := by decide +kernel
theorem dX7_sign_4 : decode cX7_sign 4 = .ok (.ifCond .ne 24, 3) := by decide +kernel
theorem dX7_sign_7 : decode cX7_sign 7 = .ok (.aload_n 0, 1) := by decide +kernel
theorem dX7_sign_8 : decode cX7_sign 8 = .ok (.invokevirtual 109, 3) := by decide +kernel
theorem dX7_sign_11 : decode cX7_sign 11 = .ok (.iload_n 1, 1) := by decide +kernel
theorem dX7_sign_12 : decode cX7_sign 12 = .ok (.if_icmp .ne 16, 3) := by decide +kernel
theorem dX7_sign_15 : decode cX7_sign 15 = .ok (.aload_n 0, 1) := by decide +kernel
theorem dX7_sign_16 : decode cX7_sign 16 = .ok (.dup, 1) := by decide +kernel
theorem dX7_sign_17 : decode cX7_sign 17 = .ok (.getfield 100, 3) := by decide +kernel
theorem dX7_sign_20 : decode cX7_sign 20 = .ok (.iconst 1, 1) := by decide +kernel
theorem dX7_sign_21 : decode cX7_sign 21 = .ok (.iadd, 1) := by decide +kernel
theorem dX7_sign_22 : decode cX7_sign 22 = .ok (.putfield 100, 3) := by decide +kernel
theorem dX7_sign_25 : decode cX7_sign 25 = .ok (.goto 8, 3) := by decide +kernel
theorem dX7_sign_28 : decode cX7_sign 28 = .ok (.aload_n 0, 1) := by decide +kernel
theorem dX7_sign_29 : decode cX7_sign 29 = .ok (.iconst 1, 1) := by decide +kernel
theorem dX7_sign_30 : decode cX7_sign 30 = .ok (.invokevirtual 113, 3) := by decide +kernel
theorem dX7_sign_33 : decode cX7_sign 33 = .ok (.return_, 1) := by decide +kernel
theorem dX7_figures_0 : decode cX7_figures 0 = .ok (.iconst 0, 1) := by decide +kernel
theorem dX7_figures_1 : decode cX7_figures 1 = .ok (.istore_n 1, 1) := by decide +kernel
theorem dX7_figures_2 : decode cX7_figures 2 = .ok (.aload_n 0, 1) := by decide +kernel
theorem dX7_figures_3 : decode cX7_figures 3 = .ok (.getfield 100, 3) := by decide +kernel
theorem dX7_figures_6 : decode cX7_figures 6 = .ok (.iload_n 1, 1) := by decide +kernel
theorem dX7_figures_7 : decode cX7_figures 7 = .ok (.iadd, 1) := by decide +kernel
theorem dX7_figures_8 : decode cX7_figures 8 = .ok (.aload_n 0, 1) := by decide +kernel
theorem dX7_figures_9 : decode cX7_figures 9 = .ok (.getfield 96, 3) := by decide +kernel
theorem dX7_figures_12 : decode cX7_figures 12 = .ok (.if_icmp .ge 30, 3) := by decide +kernel
theorem dX7_figures_15 : decode cX7_figures 15 = .ok (.aload_n 0, 1) := by decide +kernel
theorem dX7_figures_16 : decode cX7_figures 16 = .ok (.getfield 19, 3) := by decide +kernel
theorem dX7_figures_19 : decode cX7_figures 19 = .ok (.aload_n 0, 1) := by decide +kernel
theorem dX7_figures_20 : decode cX7_figures 20 = .ok (.getfield 100, 3) := by decide +kernel
theorem dX7_figures_23 : decode cX7_figures 23 = .ok (.iload_n 1, 1) := by decide +kernel
theorem dX7_figures_24 : decode cX7_figures 24 = .ok (.iadd, 1) := by decide +kernel
theorem dX7_figures_25 : decode cX7_figures 25 = .ok (.iaload, 1) := by decide +kernel
theorem dX7_figures_26 : decode cX7_figures 26 = .ok (.bipush 48, 2) := by decide +kernel
theorem dX7_figures_28 : decode cX7_figures 28 = .ok (.bipush 57, 2) := by decide +kernel
theorem dX7_figures_30 : decode cX7_figures 30 = .ok (.invokestatic 70, 3) := by decide +kernel
theorem dX7_figures_33 : decode cX7_figures 33 = .ok (.ifCond .eq 9, 3) := by decide +kernel
theorem dX7_figures_36 : decode cX7_figures 36 = .ok (.iinc 1 1, 3) := by decide +kernel
theorem dX7_figures_39 : decode cX7_figures 39 = .ok (.goto (-37), 3) := by decide +kernel
theorem dX7_figures_42 : decode cX7_figures 42 = .ok (.iload_n 1, 1) := by decide +kernel
theorem dX7_figures_43 : decode cX7_figures 43 = .ok (.ireturn, 1) := by decide +kernel
theorem dX7_number_0 : decode cX7_number 0 = .ok (.aload_n 0, 1) := by decide +kernel
theorem dX7_number_1 : decode cX7_number 1 = .ok (.invokevirtual 117, 3) := by decide +kernel
theorem dX7_number_4 : decode cX7_number 4 = .ok (.istore_n 3, 1) := by decide +kernel
theorem dX7_number_5 : decode cX7_number 5 = .ok (.aload_n 0, 1) := by decide +kernel
theorem dX7_number_6 : decode cX7_number 6 = .ok (.getfield 103, 3) := by decide +kernel
theorem dX7_number_9 : decode cX7_number 9 = .ok (.ifCond .ne 12, 3) := by decide +kernel
theorem dX7_number_12 : decode cX7_number 12 = .ok (.iload_n 3, 1) := by decide +kernel
theorem dX7_number_13 : decode cX7_number 13 = .ok (.iconst 1, 1) := by decide +kernel
theorem dX7_number_14 : decode cX7_number 14 = .ok (.iconst 2, 1) := by decide +kernel
theorem dX7_number_15 : decode cX7_number 15 = .ok (.invokestatic 70, 3) := by decide +kernel
theorem dX7_number_18 : decode cX7_number 18 = .ok (.ifCond .ne 10, 3) := by decide +kernel
theorem dX7_number_21 : decode cX7_number 21 = .ok (.aload_n 0, 1) := by decide +kernel
theorem dX7_number_22 : decode cX7_number 22 = .ok (.iconst 1, 1) := by decide +kernel
theorem dX7_number_23 : decode cX7_number 23 = .ok (.invokevirtual 113, 3) := by decide +kernel
theorem dX7_number_26 : decode cX7_number 26 = .ok (.iconst 0, 1) := by decide +kernel
theorem dX7_number_27 : decode cX7_number 27 = .ok (.ireturn, 1) := by decide +kernel
theorem dX7_number_28 : decode cX7_number 28 = .ok (.iload_n 3, 1) := by decide +kernel
theorem dX7_number_29 : decode cX7_number 29 = .ok (.iconst 1, 1) := by decide +kernel
theorem dX7_number_30 : decode cX7_number 30 = .ok (.if_icmp .ne 18, 3) := by decide +kernel
theorem dX7_number_33 : decode cX7_number 33 = .ok (.aload_n 0, 1) := by decide +kernel
theorem dX7_number_34 : decode cX7_number 34 = .ok (.getfield 19, 3) := by decide +kernel
theorem dX7_number_37 : decode cX7_number 37 = .ok (.aload_n 0, 1) := by decide +kernel
theorem dX7_number_38 : decode cX7_number 38 = .ok (.getfield 100, 3) := by decide +kernel
theorem dX7_number_41 : decode cX7_number 41 = .ok (.iaload, 1) := by decide +kernel
theorem dX7_number_42 : decode cX7_number 42 = .ok (.bipush 48, 2) := by decide +kernel
theorem dX7_number_44 : decode cX7_number 44 = .ok (.isub, 1) := by decide +kernel
theorem dX7_number_45 : decode cX7_number 45 = .ok (.goto 33, 3) := by decide +kernel
theorem dX7_number_48 : decode cX7_number 48 = .ok (.bipush 10, 2) := by decide +kernel
theorem dX7_number_50 : decode cX7_number 50 = .ok (.aload_n 0, 1) := by decide +kernel
theorem dX7_number_51 : decode cX7_number 51 = .ok (.getfield 19, 3) := by decide +kernel
theorem dX7_number_54 : decode cX7_number 54 = .ok (.aload_n 0, 1) := by decide +kernel
theorem dX7_number_55 : decode cX7_number 55 = .ok (.getfield 100, 3) := by decide +kernel
theorem dX7_number_58 : decode cX7_number 58 = .ok (.iaload, 1) := by decide +kernel
theorem dX7_number_59 : decode cX7_number 59 = .ok (.bipush 48, 2) := by decide +kernel
theorem dX7_number_61 : decode cX7_number 61 = .ok (.isub, 1) := by decide +kernel
theorem dX7_number_62 : decode cX7_number 62 = .ok (.imul, 1) := by decide +kernel
theorem dX7_number_63 : decode cX7_number 63 = .ok (.aload_n 0, 1) := by decide +kernel
theorem dX7_number_64 : decode cX7_number 64 = .ok (.getfield 19, 3) := by decide +kernel
theorem dX7_number_67 : decode cX7_number 67 = .ok (.aload_n 0, 1) := by decide +kernel
theorem dX7_number_68 : decode cX7_number 68 = .ok (.getfield 100, 3) := by decide +kernel
theorem dX7_number_71 : decode cX7_number 71 = .ok (.iconst 1, 1) := by decide +kernel
theorem dX7_number_72 : decode cX7_number 72 = .ok (.iadd, 1) := by decide +kernel
theorem dX7_number_73 : decode cX7_number 73 = .ok (.iaload, 1) := by decide +kernel
theorem dX7_number_74 : decode cX7_number 74 = .ok (.iadd, 1) := by decide +kernel
theorem dX7_number_75 : decode cX7_number 75 = .ok (.bipush 48, 2) := by decide +kernel
theorem dX7_number_77 : decode cX7_number 77 = .ok (.isub, 1) := by decide +kernel
theorem dX7_number_78 : decode cX7_number 78 = .ok (.istore 4, 2) := by decide +kernel
theorem dX7_number_80 : decode cX7_number 80 = .ok (.iload 4, 2) := by decide +kernel
theorem dX7_number_82 : decode cX7_number 82 = .ok (.iload_n 1, 1) := by decide +kernel
theorem dX7_number_83 : decode cX7_number 83 = .ok (.iload_n 2, 1) := by decide +kernel
theorem dX7_number_84 : decode cX7_number 84 = .ok (.invokestatic 70, 3) := by decide +kernel
theorem dX7_number_87 : decode cX7_number 87 = .ok (.ifCond .ne 10, 3) := by decide +kernel
theorem dX7_number_90 : decode cX7_number 90 = .ok (.aload_n 0, 1) := by decide +kernel
theorem dX7_number_91 : decode cX7_number 91 = .ok (.iconst 2, 1) := by decide +kernel
theorem dX7_number_92 : decode cX7_number 92 = .ok (.invokevirtual 113, 3) := by decide +kernel
theorem dX7_number_95 : decode cX7_number 95 = .ok (.iconst 0, 1) := by decide +kernel
theorem dX7_number_96 : decode cX7_number 96 = .ok (.ireturn, 1) := by decide +kernel
theorem dX7_number_97 : decode cX7_number 97 = .ok (.aload_n 0, 1) := by decide +kernel
theorem dX7_number_98 : decode cX7_number 98 = .ok (.dup, 1) := by decide +kernel
theorem dX7_number_99 : decode cX7_number 99 = .ok (.getfield 100, 3) := by decide +kernel
theorem dX7_number_102 : decode cX7_number 102 = .ok (.iload_n 3, 1) := by decide +kernel
theorem dX7_number_103 : decode cX7_number 103 = .ok (.iadd, 1) := by decide +kernel
theorem dX7_number_104 : decode cX7_number 104 = .ok (.putfield 100, 3) := by decide +kernel
theorem dX7_number_107 : decode cX7_number 107 = .ok (.iload 4, 2) := by decide +kernel
theorem dX7_number_109 : decode cX7_number 109 = .ok (.ireturn, 1) := by decide +kernel
theorem dX7_sortBy_0 : decode cX7_sortBy 0 = .ok (.iload_n 0, 1) := by decide +kernel
theorem dX7_sortBy_1 : decode cX7_sortBy 1 = .ok (.bipush 103, 2) := by decide +kernel
theorem dX7_sortBy_3 : decode cX7_sortBy 3 = .ok (.if_icmp .ne 7, 3) := by decide +kernel
theorem dX7_sortBy_6 : decode cX7_sortBy 6 = .ok (.iconst 1, 1) := by decide +kernel
theorem dX7_sortBy_7 : decode cX7_sortBy 7 = .ok (.goto 44, 3) := by decide +kernel
theorem dX7_sortBy_10 : decode cX7_sortBy 10 = .ok (.iload_n 0, 1) := by decide +kernel
theorem dX7_sortBy_11 : decode cX7_sortBy 11 = .ok (.bipush 108, 2) := by decide +kernel
theorem dX7_sortBy_13 : decode cX7_sortBy 13 = .ok (.if_icmp .ne 7, 3) := by decide +kernel
theorem dX7_sortBy_16 : decode cX7_sortBy 16 = .ok (.iconst 2, 1) := by decide +kernel
theorem dX7_sortBy_17 : decode cX7_sortBy 17 = .ok (.goto 34, 3) := by decide +kernel
theorem dX7_sortBy_20 : decode cX7_sortBy 20 = .ok (.iload_n 0, 1) := by decide +kernel
theorem dX7_sortBy_21 : decode cX7_sortBy 21 = .ok (.bipush 104, 2) := by decide +kernel
theorem dX7_sortBy_23 : decode cX7_sortBy 23 = .ok (.if_icmp .ne 7, 3) := by decide +kernel
theorem dX7_sortBy_26 : decode cX7_sortBy 26 = .ok (.iconst 3, 1) := by decide +kernel
theorem dX7_sortBy_27 : decode cX7_sortBy 27 = .ok (.goto 24, 3) := by decide +kernel
theorem dX7_sortBy_30 : decode cX7_sortBy 30 = .ok (.iload_n 0, 1) := by decide +kernel
theorem dX7_sortBy_31 : decode cX7_sortBy 31 = .ok (.bipush 115, 2) := by decide +kernel
theorem dX7_sortBy_33 : decode cX7_sortBy 33 = .ok (.if_icmp .ne 7, 3) := by decide +kernel
theorem dX7_sortBy_36 : decode cX7_sortBy 36 = .ok (.iconst 4, 1) := by decide +kernel
theorem dX7_sortBy_37 : decode cX7_sortBy 37 = .ok (.goto 14, 3) := by decide +kernel
theorem dX7_sortBy_40 : decode cX7_sortBy 40 = .ok (.iload_n 0, 1) := by decide +kernel
theorem dX7_sortBy_41 : decode cX7_sortBy 41 = .ok (.bipush 119, 2) := by decide +kernel
theorem dX7_sortBy_43 : decode cX7_sortBy 43 = .ok (.if_icmp .ne 7, 3) := by decide +kernel
theorem dX7_sortBy_46 : decode cX7_sortBy 46 = .ok (.iconst 5, 1) := by decide +kernel
theorem dX7_sortBy_47 : decode cX7_sortBy 47 = .ok (.goto 4, 3) := by decide +kernel
theorem dX7_sortBy_50 : decode cX7_sortBy 50 = .ok (.iconst 0, 1) := by decide +kernel
theorem dX7_sortBy_51 : decode cX7_sortBy 51 = .ok (.ireturn, 1) := by decide +kernel
theorem dX7_readMarble_0 : decode cX7_readMarble 0 = .ok (.aload_n 0, 1) := by decide +kernel
theorem dX7_readMarble_1 : decode cX7_readMarble 1 = .ok (.getfield 120, 3) := by decide +kernel
theorem dX7_readMarble_4 : decode cX7_readMarble 4 = .ok (.bipush 6, 2) := by decide +kernel
theorem dX7_readMarble_6 : decode cX7_readMarble 6 = .ok (.if_icmp .ne 9, 3) := by decide +kernel
theorem dX7_readMarble_9 : decode cX7_readMarble 9 = .ok (.aload_n 0, 1) := by decide +kernel
theorem dX7_readMarble_10 : decode cX7_readMarble 10 = .ok (.iconst 3, 1) := by decide +kernel
theorem dX7_readMarble_11 : decode cX7_readMarble 11 = .ok (.invokevirtual 113, 3) := by decide +kernel
theorem dX7_readMarble_14 : decode cX7_readMarble 14 = .ok (.return_, 1) := by decide +kernel
theorem dX7_readMarble_15 : decode cX7_readMarble 15 = .ok (.aload_n 0, 1) := by decide +kernel
theorem dX7_readMarble_16 : decode cX7_readMarble 16 = .ok (.bipush 109, 2) := by decide +kernel
theorem dX7_readMarble_18 : decode cX7_readMarble 18 = .ok (.invokevirtual 123, 3) := by decide +kernel
theorem dX7_readMarble_21 : decode cX7_readMarble 21 = .ok (.aload_n 0, 1) := by decide +kernel
theorem dX7_readMarble_22 : decode cX7_readMarble 22 = .ok (.getfield 50, 3) := by decide +kernel
theorem dX7_readMarble_25 : decode cX7_readMarble 25 = .ok (.bipush 55, 2) := by decide +kernel
theorem dX7_readMarble_27 : decode cX7_readMarble 27 = .ok (.aload_n 0, 1) := by decide +kernel
theorem dX7_readMarble_28 : decode cX7_readMarble 28 = .ok (.getfield 120, 3) := by decide +kernel
theorem dX7_readMarble_31 : decode cX7_readMarble 31 = .ok (.iadd, 1) := by decide +kernel
theorem dX7_readMarble_32 : decode cX7_readMarble 32 = .ok (.aload_n 0, 1) := by decide +kernel
theorem dX7_readMarble_33 : decode cX7_readMarble 33 = .ok (.iconst 1, 1) := by decide +kernel
theorem dX7_readMarble_34 : decode cX7_readMarble 34 = .ok (.bipush 9, 2) := by decide +kernel
theorem dX7_readMarble_36 : decode cX7_readMarble 36 = .ok (.invokevirtual 126, 3) := by decide +kernel
theorem dX7_readMarble_39 : decode cX7_readMarble 39 = .ok (.iastore, 1) := by decide +kernel
theorem dX7_readMarble_40 : decode cX7_readMarble 40 = .ok (.aload_n 0, 1) := by decide +kernel
theorem dX7_readMarble_41 : decode cX7_readMarble 41 = .ok (.bipush 44, 2) := by decide +kernel
theorem dX7_readMarble_43 : decode cX7_readMarble 43 = .ok (.invokevirtual 123, 3) := by decide +kernel
theorem dX7_readMarble_46 : decode cX7_readMarble 46 = .ok (.aload_n 0, 1) := by decide +kernel
theorem dX7_readMarble_47 : decode cX7_readMarble 47 = .ok (.getfield 50, 3) := by decide +kernel
theorem dX7_readMarble_50 : decode cX7_readMarble 50 = .ok (.bipush 61, 2) := by decide +kernel
theorem dX7_readMarble_52 : decode cX7_readMarble 52 = .ok (.aload_n 0, 1) := by decide +kernel
theorem dX7_readMarble_53 : decode cX7_readMarble 53 = .ok (.getfield 120, 3) := by decide +kernel
theorem dX7_readMarble_56 : decode cX7_readMarble 56 = .ok (.iadd, 1) := by decide +kernel
theorem dX7_readMarble_57 : decode cX7_readMarble 57 = .ok (.aload_n 0, 1) := by decide +kernel
theorem dX7_readMarble_58 : decode cX7_readMarble 58 = .ok (.iconst 0, 1) := by decide +kernel
theorem dX7_readMarble_59 : decode cX7_readMarble 59 = .ok (.bipush 20, 2) := by decide +kernel
theorem dX7_readMarble_61 : decode cX7_readMarble 61 = .ok (.invokevirtual 126, 3) := by decide +kernel
theorem dX7_readMarble_64 : decode cX7_readMarble 64 = .ok (.iastore, 1) := by decide +kernel
theorem dX7_readMarble_65 : decode cX7_readMarble 65 = .ok (.aload_n 0, 1) := by decide +kernel
theorem dX7_readMarble_66 : decode cX7_readMarble 66 = .ok (.bipush 59, 2) := by decide +kernel
theorem dX7_readMarble_68 : decode cX7_readMarble 68 = .ok (.invokevirtual 123, 3) := by decide +kernel
theorem dX7_readMarble_71 : decode cX7_readMarble 71 = .ok (.aload_n 0, 1) := by decide +kernel
theorem dX7_readMarble_72 : decode cX7_readMarble 72 = .ok (.getfield 50, 3) := by decide +kernel
theorem dX7_readMarble_75 : decode cX7_readMarble 75 = .ok (.bipush 49, 2) := by decide +kernel
theorem dX7_readMarble_77 : decode cX7_readMarble 77 = .ok (.aload_n 0, 1) := by decide +kernel
theorem dX7_readMarble_78 : decode cX7_readMarble 78 = .ok (.getfield 120, 3) := by decide +kernel
theorem dX7_readMarble_81 : decode cX7_readMarble 81 = .ok (.iadd, 1) := by decide +kernel
theorem dX7_readMarble_82 : decode cX7_readMarble 82 = .ok (.bipush 10, 2) := by decide +kernel
theorem dX7_readMarble_84 : decode cX7_readMarble 84 = .ok (.iastore, 1) := by decide +kernel
theorem dX7_readMarble_85 : decode cX7_readMarble 85 = .ok (.aload_n 0, 1) := by decide +kernel
theorem dX7_readMarble_86 : decode cX7_readMarble 86 = .ok (.dup, 1) := by decide +kernel
theorem dX7_readMarble_87 : decode cX7_readMarble 87 = .ok (.getfield 120, 3) := by decide +kernel
theorem dX7_readMarble_90 : decode cX7_readMarble 90 = .ok (.iconst 1, 1) := by decide +kernel
theorem dX7_readMarble_91 : decode cX7_readMarble 91 = .ok (.iadd, 1) := by decide +kernel
theorem dX7_readMarble_92 : decode cX7_readMarble 92 = .ok (.putfield 120, 3) := by decide +kernel
theorem dX7_readMarble_95 : decode cX7_readMarble 95 = .ok (.return_, 1) := by decide +kernel
theorem dX7_readPiece_0 : decode cX7_readPiece 0 = .ok (.aload_n 0, 1) := by decide +kernel
theorem dX7_readPiece_1 : decode cX7_readPiece 1 = .ok (.invokevirtual 109, 3) := by decide +kernel
theorem dX7_readPiece_4 : decode cX7_readPiece 4 = .ok (.invokestatic 129, 3) := by decide +kernel
theorem dX7_readPiece_7 : decode cX7_readPiece 7 = .ok (.istore_n 1, 1) := by decide +kernel
theorem dX7_readPiece_8 : decode cX7_readPiece 8 = .ok (.iload_n 1, 1) := by decide +kernel
theorem dX7_readPiece_9 : decode cX7_readPiece 9 = .ok (.ifCond .eq 12, 3) := by decide +kernel
theorem dX7_readPiece_12 : decode cX7_readPiece 12 = .ok (.aload_n 0, 1) := by decide +kernel
theorem dX7_readPiece_13 : decode cX7_readPiece 13 = .ok (.getfield 132, 3) := by decide +kernel
theorem dX7_readPiece_16 : decode cX7_readPiece 16 = .ok (.bipush 8, 2) := by decide +kernel
theorem dX7_readPiece_18 : decode cX7_readPiece 18 = .ok (.if_icmp .ne 17, 3) := by decide +kernel
theorem dX7_readPiece_21 : decode cX7_readPiece 21 = .ok (.aload_n 0, 1) := by decide +kernel
theorem dX7_readPiece_22 : decode cX7_readPiece 22 = .ok (.iload_n 1, 1) := by decide +kernel
theorem dX7_readPiece_23 : decode cX7_readPiece 23 = .ok (.ifCond .ne 7, 3) := by decide +kernel
theorem dX7_readPiece_26 : decode cX7_readPiece 26 = .ok (.iconst 1, 1) := by decide +kernel
theorem dX7_readPiece_27 : decode cX7_readPiece 27 = .ok (.goto 4, 3) := by decide +kernel
theorem dX7_readPiece_30 : decode cX7_readPiece 30 = .ok (.iconst 3, 1) := by decide +kernel
theorem dX7_readPiece_31 : decode cX7_readPiece 31 = .ok (.invokevirtual 113, 3) := by decide +kernel
theorem dX7_readPiece_34 : decode cX7_readPiece 34 = .ok (.return_, 1) := by decide +kernel
theorem dX7_readPiece_35 : decode cX7_readPiece 35 = .ok (.aload_n 0, 1) := by decide +kernel
theorem dX7_readPiece_36 : decode cX7_readPiece 36 = .ok (.dup, 1) := by decide +kernel
theorem dX7_readPiece_37 : decode cX7_readPiece 37 = .ok (.getfield 100, 3) := by decide +kernel
theorem dX7_readPiece_40 : decode cX7_readPiece 40 = .ok (.iconst 1, 1) := by decide +kernel
theorem dX7_readPiece_41 : decode cX7_readPiece 41 = .ok (.iadd, 1) := by decide +kernel
theorem dX7_readPiece_42 : decode cX7_readPiece 42 = .ok (.putfield 100, 3) := by decide +kernel
theorem dX7_readPiece_45 : decode cX7_readPiece 45 = .ok (.aload_n 0, 1) := by decide +kernel
theorem dX7_readPiece_46 : decode cX7_readPiece 46 = .ok (.getfield 47, 3) := by decide +kernel
theorem dX7_readPiece_49 : decode cX7_readPiece 49 = .ok (.aload_n 0, 1) := by decide +kernel
theorem dX7_readPiece_50 : decode cX7_readPiece 50 = .ok (.getfield 132, 3) := by decide +kernel
theorem dX7_readPiece_53 : decode cX7_readPiece 53 = .ok (.iload_n 1, 1) := by decide +kernel
theorem dX7_readPiece_54 : decode cX7_readPiece 54 = .ok (.iastore, 1) := by decide +kernel
theorem dX7_readPiece_55 : decode cX7_readPiece 55 = .ok (.aload_n 0, 1) := by decide +kernel
theorem dX7_readPiece_56 : decode cX7_readPiece 56 = .ok (.getfield 50, 3) := by decide +kernel
theorem dX7_readPiece_59 : decode cX7_readPiece 59 = .ok (.iconst 1, 1) := by decide +kernel
theorem dX7_readPiece_60 : decode cX7_readPiece 60 = .ok (.aload_n 0, 1) := by decide +kernel
theorem dX7_readPiece_61 : decode cX7_readPiece 61 = .ok (.getfield 132, 3) := by decide +kernel
theorem dX7_readPiece_64 : decode cX7_readPiece 64 = .ok (.iadd, 1) := by decide +kernel
theorem dX7_readPiece_65 : decode cX7_readPiece 65 = .ok (.aload_n 0, 1) := by decide +kernel
theorem dX7_readPiece_66 : decode cX7_readPiece 66 = .ok (.iconst 0, 1) := by decide +kernel
theorem dX7_readPiece_67 : decode cX7_readPiece 67 = .ok (.iconst 1, 1) := by decide +kernel
theorem dX7_readPiece_68 : decode cX7_readPiece 68 = .ok (.invokevirtual 126, 3) := by decide +kernel
theorem dX7_readPiece_71 : decode cX7_readPiece 71 = .ok (.iastore, 1) := by decide +kernel
theorem dX7_readPiece_72 : decode cX7_readPiece 72 = .ok (.aload_n 0, 1) := by decide +kernel
theorem dX7_readPiece_73 : decode cX7_readPiece 73 = .ok (.bipush 44, 2) := by decide +kernel
theorem dX7_readPiece_75 : decode cX7_readPiece 75 = .ok (.invokevirtual 123, 3) := by decide +kernel
theorem dX7_readPiece_78 : decode cX7_readPiece 78 = .ok (.aload_n 0, 1) := by decide +kernel
theorem dX7_readPiece_79 : decode cX7_readPiece 79 = .ok (.getfield 50, 3) := by decide +kernel
theorem dX7_readPiece_82 : decode cX7_readPiece 82 = .ok (.bipush 9, 2) := by decide +kernel
theorem dX7_readPiece_84 : decode cX7_readPiece 84 = .ok (.aload_n 0, 1) := by decide +kernel
theorem dX7_readPiece_85 : decode cX7_readPiece 85 = .ok (.getfield 132, 3) := by decide +kernel
theorem dX7_readPiece_88 : decode cX7_readPiece 88 = .ok (.iadd, 1) := by decide +kernel
theorem dX7_readPiece_89 : decode cX7_readPiece 89 = .ok (.aload_n 0, 1) := by decide +kernel
theorem dX7_readPiece_90 : decode cX7_readPiece 90 = .ok (.aload_n 0, 1) := by decide +kernel
theorem dX7_readPiece_91 : decode cX7_readPiece 91 = .ok (.getfield 132, 3) := by decide +kernel
theorem dX7_readPiece_94 : decode cX7_readPiece 94 = .ok (.iconst 1, 1) := by decide +kernel
theorem dX7_readPiece_95 : decode cX7_readPiece 95 = .ok (.iadd, 1) := by decide +kernel
theorem dX7_readPiece_96 : decode cX7_readPiece 96 = .ok (.bipush 9, 2) := by decide +kernel
theorem dX7_readPiece_98 : decode cX7_readPiece 98 = .ok (.invokevirtual 126, 3) := by decide +kernel
theorem dX7_readPiece_101 : decode cX7_readPiece 101 = .ok (.iastore, 1) := by decide +kernel
theorem dX7_readPiece_102 : decode cX7_readPiece 102 = .ok (.aload_n 0, 1) := by decide +kernel
theorem dX7_readPiece_103 : decode cX7_readPiece 103 = .ok (.bipush 44, 2) := by decide +kernel
theorem dX7_readPiece_105 : decode cX7_readPiece 105 = .ok (.invokevirtual 123, 3) := by decide +kernel
theorem dX7_readPiece_108 : decode cX7_readPiece 108 = .ok (.aload_n 0, 1) := by decide +kernel
theorem dX7_readPiece_109 : decode cX7_readPiece 109 = .ok (.getfield 50, 3) := by decide +kernel
theorem dX7_readPiece_112 : decode cX7_readPiece 112 = .ok (.bipush 17, 2) := by decide +kernel
theorem dX7_readPiece_114 : decode cX7_readPiece 114 = .ok (.aload_n 0, 1) := by decide +kernel
theorem dX7_readPiece_115 : decode cX7_readPiece 115 = .ok (.getfield 132, 3) := by decide +kernel
theorem dX7_readPiece_118 : decode cX7_readPiece 118 = .ok (.iadd, 1) := by decide +kernel
theorem dX7_readPiece_119 : decode cX7_readPiece 119 = .ok (.aload_n 0, 1) := by decide +kernel
theorem dX7_readPiece_120 : decode cX7_readPiece 120 = .ok (.aload_n 0, 1) := by decide +kernel
theorem dX7_readPiece_121 : decode cX7_readPiece 121 = .ok (.getfield 132, 3) := by decide +kernel
theorem dX7_readPiece_124 : decode cX7_readPiece 124 = .ok (.iconst 1, 1) := by decide +kernel
theorem dX7_readPiece_125 : decode cX7_readPiece 125 = .ok (.iadd, 1) := by decide +kernel
theorem dX7_readPiece_126 : decode cX7_readPiece 126 = .ok (.bipush 9, 2) := by decide +kernel
theorem dX7_readPiece_128 : decode cX7_readPiece 128 = .ok (.invokevirtual 126, 3) := by decide +kernel
theorem dX7_readPiece_131 : decode cX7_readPiece 131 = .ok (.iastore, 1) := by decide +kernel
theorem dX7_readPiece_132 : decode cX7_readPiece 132 = .ok (.aload_n 0, 1) := by decide +kernel
theorem dX7_readPiece_133 : decode cX7_readPiece 133 = .ok (.bipush 59, 2) := by decide +kernel
theorem dX7_readPiece_135 : decode cX7_readPiece 135 = .ok (.invokevirtual 123, 3) := by decide +kernel
theorem dX7_readPiece_138 : decode cX7_readPiece 138 = .ok (.aload_n 0, 1) := by decide +kernel
theorem dX7_readPiece_139 : decode cX7_readPiece 139 = .ok (.dup, 1) := by decide +kernel
theorem dX7_readPiece_140 : decode cX7_readPiece 140 = .ok (.getfield 132, 3) := by decide +kernel
theorem dX7_readPiece_143 : decode cX7_readPiece 143 = .ok (.iconst 1, 1) := by decide +kernel
theorem dX7_readPiece_144 : decode cX7_readPiece 144 = .ok (.iadd, 1) := by decide +kernel
theorem dX7_readPiece_145 : decode cX7_readPiece 145 = .ok (.putfield 132, 3) := by decide +kernel
theorem dX7_readPiece_148 : decode cX7_readPiece 148 = .ok (.return_, 1) := by decide +kernel
theorem dX7_readRun_0 : decode cX7_readRun 0 = .ok (.aload_n 0, 1) := by decide +kernel
theorem dX7_readRun_1 : decode cX7_readRun 1 = .ok (.iconst 0, 1) := by decide +kernel
theorem dX7_readRun_2 : decode cX7_readRun 2 = .ok (.putfield 100, 3) := by decide +kernel
theorem dX7_readRun_5 : decode cX7_readRun 5 = .ok (.aload_n 0, 1) := by decide +kernel
theorem dX7_readRun_6 : decode cX7_readRun 6 = .ok (.iconst 0, 1) := by decide +kernel
theorem dX7_readRun_7 : decode cX7_readRun 7 = .ok (.putfield 103, 3) := by decide +kernel
theorem dX7_readRun_10 : decode cX7_readRun 10 = .ok (.aload_n 0, 1) := by decide +kernel
theorem dX7_readRun_11 : decode cX7_readRun 11 = .ok (.iconst 0, 1) := by decide +kernel
theorem dX7_readRun_12 : decode cX7_readRun 12 = .ok (.putfield 120, 3) := by decide +kernel
theorem dX7_readRun_15 : decode cX7_readRun 15 = .ok (.aload_n 0, 1) := by decide +kernel
theorem dX7_readRun_16 : decode cX7_readRun 16 = .ok (.iconst 0, 1) := by decide +kernel
theorem dX7_readRun_17 : decode cX7_readRun 17 = .ok (.putfield 132, 3) := by decide +kernel
theorem dX7_readRun_20 : decode cX7_readRun 20 = .ok (.iconst 0, 1) := by decide +kernel
theorem dX7_readRun_21 : decode cX7_readRun 21 = .ok (.istore_n 1, 1) := by decide +kernel
theorem dX7_readRun_22 : decode cX7_readRun 22 = .ok (.iload_n 1, 1) := by decide +kernel
theorem dX7_readRun_23 : decode cX7_readRun 23 = .ok (.bipush 67, 2) := by decide +kernel
theorem dX7_readRun_25 : decode cX7_readRun 25 = .ok (.if_icmp .ge 32, 3) := by decide +kernel
theorem dX7_readRun_28 : decode cX7_readRun 28 = .ok (.aload_n 0, 1) := by decide +kernel
theorem dX7_readRun_29 : decode cX7_readRun 29 = .ok (.getfield 50, 3) := by decide +kernel
theorem dX7_readRun_32 : decode cX7_readRun 32 = .ok (.iload_n 1, 1) := by decide +kernel
theorem dX7_readRun_33 : decode cX7_readRun 33 = .ok (.iload_n 1, 1) := by decide +kernel
theorem dX7_readRun_34 : decode cX7_readRun 34 = .ok (.bipush 25, 2) := by decide +kernel
theorem dX7_readRun_36 : decode cX7_readRun 36 = .ok (.bipush 32, 2) := by decide +kernel
theorem dX7_readRun_38 : decode cX7_readRun 38 = .ok (.invokestatic 70, 3) := by decide +kernel
theorem dX7_readRun_41 : decode cX7_readRun 41 = .ok (.ifCond .eq 8, 3) := by decide +kernel
theorem dX7_readRun_44 : decode cX7_readRun 44 = .ok (.ldc 135, 2) := by decide +kernel
theorem dX7_readRun_46 : decode cX7_readRun 46 = .ok (.goto 4, 3) := by decide +kernel
theorem dX7_readRun_49 : decode cX7_readRun 49 = .ok (.iconst 0, 1) := by decide +kernel
theorem dX7_readRun_50 : decode cX7_readRun 50 = .ok (.iastore, 1) := by decide +kernel
theorem dX7_readRun_51 : decode cX7_readRun 51 = .ok (.iinc 1 1, 3) := by decide +kernel
theorem dX7_readRun_54 : decode cX7_readRun 54 = .ok (.goto (-32), 3) := by decide +kernel
theorem dX7_readRun_57 : decode cX7_readRun 57 = .ok (.aload_n 0, 1) := by decide +kernel
theorem dX7_readRun_58 : decode cX7_readRun 58 = .ok (.bipush 98, 2) := by decide +kernel
theorem dX7_readRun_60 : decode cX7_readRun 60 = .ok (.invokevirtual 123, 3) := by decide +kernel
theorem dX7_readRun_63 : decode cX7_readRun 63 = .ok (.aload_n 0, 1) := by decide +kernel
theorem dX7_readRun_64 : decode cX7_readRun 64 = .ok (.aload_n 0, 1) := by decide +kernel
theorem dX7_readRun_65 : decode cX7_readRun 65 = .ok (.iconst 1, 1) := by decide +kernel
theorem dX7_readRun_66 : decode cX7_readRun 66 = .ok (.bipush 9, 2) := by decide +kernel
theorem dX7_readRun_68 : decode cX7_readRun 68 = .ok (.invokevirtual 126, 3) := by decide +kernel
theorem dX7_readRun_71 : decode cX7_readRun 71 = .ok (.putfield 136, 3) := by decide +kernel
theorem dX7_readRun_74 : decode cX7_readRun 74 = .ok (.aload_n 0, 1) := by decide +kernel
theorem dX7_readRun_75 : decode cX7_readRun 75 = .ok (.bipush 59, 2) := by decide +kernel
theorem dX7_readRun_77 : decode cX7_readRun 77 = .ok (.invokevirtual 123, 3) := by decide +kernel
theorem dX7_readRun_80 : decode cX7_readRun 80 = .ok (.aload_n 0, 1) := by decide +kernel
theorem dX7_readRun_81 : decode cX7_readRun 81 = .ok (.getfield 103, 3) := by decide +kernel
theorem dX7_readRun_84 : decode cX7_readRun 84 = .ok (.ifCond .ne 26, 3) := by decide +kernel
theorem dX7_readRun_87 : decode cX7_readRun 87 = .ok (.aload_n 0, 1) := by decide +kernel
theorem dX7_readRun_88 : decode cX7_readRun 88 = .ok (.getfield 120, 3) := by decide +kernel
theorem dX7_readRun_91 : decode cX7_readRun 91 = .ok (.ifCond .eq 12, 3) := by decide +kernel
theorem dX7_readRun_94 : decode cX7_readRun 94 = .ok (.aload_n 0, 1) := by decide +kernel
theorem dX7_readRun_95 : decode cX7_readRun 95 = .ok (.invokevirtual 109, 3) := by decide +kernel
theorem dX7_readRun_98 : decode cX7_readRun 98 = .ok (.bipush 109, 2) := by decide +kernel
theorem dX7_readRun_100 : decode cX7_readRun 100 = .ok (.if_icmp .ne 10, 3) := by decide +kernel
theorem dX7_readRun_103 : decode cX7_readRun 103 = .ok (.aload_n 0, 1) := by decide +kernel
theorem dX7_readRun_104 : decode cX7_readRun 104 = .ok (.invokevirtual 139, 3) := by decide +kernel
theorem dX7_readRun_107 : decode cX7_readRun 107 = .ok (.goto (-27), 3) := by decide +kernel
theorem dX7_readRun_110 : decode cX7_readRun 110 = .ok (.aload_n 0, 1) := by decide +kernel
theorem dX7_readRun_111 : decode cX7_readRun 111 = .ok (.getfield 103, 3) := by decide +kernel
theorem dX7_readRun_114 : decode cX7_readRun 114 = .ok (.ifCond .ne 28, 3) := by decide +kernel
theorem dX7_readRun_117 : decode cX7_readRun 117 = .ok (.aload_n 0, 1) := by decide +kernel
theorem dX7_readRun_118 : decode cX7_readRun 118 = .ok (.getfield 132, 3) := by decide +kernel
theorem dX7_readRun_121 : decode cX7_readRun 121 = .ok (.ifCond .eq 14, 3) := by decide +kernel
theorem dX7_readRun_124 : decode cX7_readRun 124 = .ok (.aload_n 0, 1) := by decide +kernel
theorem dX7_readRun_125 : decode cX7_readRun 125 = .ok (.getfield 100, 3) := by decide +kernel
theorem dX7_readRun_128 : decode cX7_readRun 128 = .ok (.aload_n 0, 1) := by decide +kernel
theorem dX7_readRun_129 : decode cX7_readRun 129 = .ok (.getfield 96, 3) := by decide +kernel
theorem dX7_readRun_132 : decode cX7_readRun 132 = .ok (.if_icmp .ge 10, 3) := by decide +kernel
theorem dX7_readRun_135 : decode cX7_readRun 135 = .ok (.aload_n 0, 1) := by decide +kernel
theorem dX7_readRun_136 : decode cX7_readRun 136 = .ok (.invokevirtual 142, 3) := by decide +kernel
theorem dX7_readRun_139 : decode cX7_readRun 139 = .ok (.goto (-29), 3) := by decide +kernel
theorem dX7_readRun_142 : decode cX7_readRun 142 = .ok (.return_, 1) := by decide +kernel
theorem dX7_run_0 : decode cX7_run 0 = .ok (.aload_n 0, 1) := by decide +kernel
theorem dX7_run_1 : decode cX7_run 1 = .ok (.invokevirtual 145, 3) := by decide +kernel
theorem dX7_run_4 : decode cX7_run 4 = .ok (.aload_n 0, 1) := by decide +kernel
theorem dX7_run_5 : decode cX7_run 5 = .ok (.iconst 0, 1) := by decide +kernel
theorem dX7_run_6 : decode cX7_run 6 = .ok (.putfield 96, 3) := by decide +kernel
theorem dX7_run_9 : decode cX7_run 9 = .ok (.aload_n 0, 1) := by decide +kernel
theorem dX7_run_10 : decode cX7_run 10 = .ok (.getfield 103, 3) := by decide +kernel
theorem dX7_run_13 : decode cX7_run 13 = .ok (.ifCond .eq 19, 3) := by decide +kernel
theorem dX7_run_16 : decode cX7_run 16 = .ok (.aload_n 0, 1) := by decide +kernel
theorem dX7_run_17 : decode cX7_run 17 = .ok (.aload_n 0, 1) := by decide +kernel
theorem dX7_run_18 : decode cX7_run 18 = .ok (.getfield 103, 3) := by decide +kernel
theorem dX7_run_21 : decode cX7_run 21 = .ok (.putfield 148, 3) := by decide +kernel
theorem dX7_run_24 : decode cX7_run 24 = .ok (.ldc 151, 2) := by decide +kernel
theorem dX7_run_26 : decode cX7_run 26 = .ok (.aload_n 0, 1) := by decide +kernel
theorem dX7_run_27 : decode cX7_run 27 = .ok (.getfield 106, 3) := by decide +kernel
theorem dX7_run_30 : decode cX7_run 30 = .ok (.isub, 1) := by decide +kernel
theorem dX7_run_31 : decode cX7_run 31 = .ok (.ireturn, 1) := by decide +kernel
theorem dX7_run_32 : decode cX7_run 32 = .ok (.aload_n 0, 1) := by decide +kernel
theorem dX7_run_33 : decode cX7_run 33 = .ok (.aload_n 0, 1) := by decide +kernel
theorem dX7_run_34 : decode cX7_run 34 = .ok (.getfield 136, 3) := by decide +kernel
theorem dX7_run_37 : decode cX7_run 37 = .ok (.putfield 152, 3) := by decide +kernel
theorem dX7_run_40 : decode cX7_run 40 = .ok (.aload_n 0, 1) := by decide +kernel
theorem dX7_run_41 : decode cX7_run 41 = .ok (.aload_n 0, 1) := by decide +kernel
theorem dX7_run_42 : decode cX7_run 42 = .ok (.getfield 120, 3) := by decide +kernel
theorem dX7_run_45 : decode cX7_run 45 = .ok (.putfield 74, 3) := by decide +kernel
theorem dX7_run_48 : decode cX7_run 48 = .ok (.aload_n 0, 1) := by decide +kernel
theorem dX7_run_49 : decode cX7_run 49 = .ok (.aload_n 0, 1) := by decide +kernel
theorem dX7_run_50 : decode cX7_run 50 = .ok (.getfield 132, 3) := by decide +kernel
theorem dX7_run_53 : decode cX7_run 53 = .ok (.putfield 77, 3) := by decide +kernel
theorem dX7_run_56 : decode cX7_run 56 = .ok (.aload_n 0, 1) := by decide +kernel
theorem dX7_run_57 : decode cX7_run 57 = .ok (.getfield 47, 3) := by decide +kernel
theorem dX7_run_60 : decode cX7_run 60 = .ok (.iconst 0, 1) := by decide +kernel
theorem dX7_run_61 : decode cX7_run 61 = .ok (.aload_n 0, 1) := by decide +kernel
theorem dX7_run_62 : decode cX7_run 62 = .ok (.getfield 22, 3) := by decide +kernel
theorem dX7_run_65 : decode cX7_run 65 = .ok (.iconst 0, 1) := by decide +kernel
theorem dX7_run_66 : decode cX7_run 66 = .ok (.bipush 8, 2) := by decide +kernel
theorem dX7_run_68 : decode cX7_run 68 = .ok (.invokestatic 155, 3) := by decide +kernel
theorem dX7_run_71 : decode cX7_run 71 = .ok (.aload_n 0, 1) := by decide +kernel
theorem dX7_run_72 : decode cX7_run 72 = .ok (.getfield 50, 3) := by decide +kernel
theorem dX7_run_75 : decode cX7_run 75 = .ok (.iconst 0, 1) := by decide +kernel
theorem dX7_run_76 : decode cX7_run 76 = .ok (.aload_n 0, 1) := by decide +kernel
theorem dX7_run_77 : decode cX7_run 77 = .ok (.getfield 25, 3) := by decide +kernel
theorem dX7_run_80 : decode cX7_run 80 = .ok (.iconst 0, 1) := by decide +kernel
theorem dX7_run_81 : decode cX7_run 81 = .ok (.bipush 67, 2) := by decide +kernel
theorem dX7_run_83 : decode cX7_run 83 = .ok (.invokestatic 155, 3) := by decide +kernel
theorem dX7_run_86 : decode cX7_run 86 = .ok (.aload_n 0, 1) := by decide +kernel
theorem dX7_run_87 : decode cX7_run 87 = .ok (.iconst 0, 1) := by decide +kernel
theorem dX7_run_88 : decode cX7_run 88 = .ok (.putfield 159, 3) := by decide +kernel
theorem dX7_run_91 : decode cX7_run 91 = .ok (.aload_n 0, 1) := by decide +kernel
theorem dX7_run_92 : decode cX7_run 92 = .ok (.getfield 77, 3) := by decide +kernel
theorem dX7_run_95 : decode cX7_run 95 = .ok (.ireturn, 1) := by decide +kernel
theorem dX7_fault_0 : decode cX7_fault 0 = .ok (.aload_n 0, 1) := by decide +kernel
theorem dX7_fault_1 : decode cX7_fault 1 = .ok (.getfield 148, 3) := by decide +kernel
theorem dX7_fault_4 : decode cX7_fault 4 = .ok (.ireturn, 1) := by decide +kernel
theorem dX7_sends_0 : decode cX7_sends 0 = .ok (.aload_n 1, 1) := by decide +kernel
theorem dX7_sends_1 : decode cX7_sends 1 = .ok (.bipush 49, 2) := by decide +kernel
theorem dX7_sends_3 : decode cX7_sends 3 = .ok (.iload_n 2, 1) := by decide +kernel
theorem dX7_sends_4 : decode cX7_sends 4 = .ok (.iadd, 1) := by decide +kernel
theorem dX7_sends_5 : decode cX7_sends 5 = .ok (.iload_n 3, 1) := by decide +kernel
theorem dX7_sends_6 : decode cX7_sends 6 = .ok (.bipush 8, 2) := by decide +kernel
theorem dX7_sends_8 : decode cX7_sends 8 = .ok (.if_icmp .ge 16, 3) := by decide +kernel
theorem dX7_sends_11 : decode cX7_sends 11 = .ok (.iload_n 3, 1) := by decide +kernel
theorem dX7_sends_12 : decode cX7_sends 12 = .ok (.aload_n 0, 1) := by decide +kernel
theorem dX7_sends_13 : decode cX7_sends 13 = .ok (.getfield 77, 3) := by decide +kernel
theorem dX7_sends_16 : decode cX7_sends 16 = .ok (.if_icmp .lt 8, 3) := by decide +kernel
theorem dX7_sends_19 : decode cX7_sends 19 = .ok (.bipush 8, 2) := by decide +kernel
theorem dX7_sends_21 : decode cX7_sends 21 = .ok (.goto 4, 3) := by decide +kernel
theorem dX7_sends_24 : decode cX7_sends 24 = .ok (.iload_n 3, 1) := by decide +kernel
theorem dX7_sends_25 : decode cX7_sends 25 = .ok (.iastore, 1) := by decide +kernel
theorem dX7_sends_26 : decode cX7_sends 26 = .ok (.return_, 1) := by decide +kernel
theorem dX7_leaves_0 : decode cX7_leaves 0 = .ok (.aload_n 1, 1) := by decide +kernel
theorem dX7_leaves_1 : decode cX7_leaves 1 = .ok (.bipush 49, 2) := by decide +kernel
theorem dX7_leaves_3 : decode cX7_leaves 3 = .ok (.iload_n 2, 1) := by decide +kernel
theorem dX7_leaves_4 : decode cX7_leaves 4 = .ok (.iadd, 1) := by decide +kernel
theorem dX7_leaves_5 : decode cX7_leaves 5 = .ok (.iaload, 1) := by decide +kernel
theorem dX7_leaves_6 : decode cX7_leaves 6 = .ok (.istore_n 3, 1) := by decide +kernel
theorem dX7_leaves_7 : decode cX7_leaves 7 = .ok (.aload_n 1, 1) := by decide +kernel
theorem dX7_leaves_8 : decode cX7_leaves 8 = .ok (.bipush 33, 2) := by decide +kernel
theorem dX7_leaves_10 : decode cX7_leaves 10 = .ok (.iload_n 3, 1) := by decide +kernel
theorem dX7_leaves_11 : decode cX7_leaves 11 = .ok (.iadd, 1) := by decide +kernel
theorem dX7_leaves_12 : decode cX7_leaves 12 = .ok (.dup2, 1) := by decide +kernel
theorem dX7_leaves_13 : decode cX7_leaves 13 = .ok (.iaload, 1) := by decide +kernel
theorem dX7_leaves_14 : decode cX7_leaves 14 = .ok (.aload_n 1, 1) := by decide +kernel
theorem dX7_leaves_15 : decode cX7_leaves 15 = .ok (.bipush 33, 2) := by decide +kernel
theorem dX7_leaves_17 : decode cX7_leaves 17 = .ok (.iload_n 3, 1) := by decide +kernel
theorem dX7_leaves_18 : decode cX7_leaves 18 = .ok (.iadd, 1) := by decide +kernel
theorem dX7_leaves_19 : decode cX7_leaves 19 = .ok (.iaload, 1) := by decide +kernel
theorem dX7_leaves_20 : decode cX7_leaves 20 = .ok (.sipush 999, 3) := by decide +kernel
theorem dX7_leaves_23 : decode cX7_leaves 23 = .ok (.if_icmp .ge 7, 3) := by decide +kernel
theorem dX7_leaves_26 : decode cX7_leaves 26 = .ok (.iconst 1, 1) := by decide +kernel
theorem dX7_leaves_27 : decode cX7_leaves 27 = .ok (.goto 4, 3) := by decide +kernel
theorem dX7_leaves_30 : decode cX7_leaves 30 = .ok (.iconst 0, 1) := by decide +kernel
theorem dX7_leaves_31 : decode cX7_leaves 31 = .ok (.iadd, 1) := by decide +kernel
theorem dX7_leaves_32 : decode cX7_leaves 32 = .ok (.iastore, 1) := by decide +kernel
theorem dX7_leaves_33 : decode cX7_leaves 33 = .ok (.aload_n 1, 1) := by decide +kernel
theorem dX7_leaves_34 : decode cX7_leaves 34 = .ok (.bipush 41, 2) := by decide +kernel
theorem dX7_leaves_36 : decode cX7_leaves 36 = .ok (.iload_n 3, 1) := by decide +kernel
theorem dX7_leaves_37 : decode cX7_leaves 37 = .ok (.iadd, 1) := by decide +kernel
theorem dX7_leaves_38 : decode cX7_leaves 38 = .ok (.aload_n 1, 1) := by decide +kernel
theorem dX7_leaves_39 : decode cX7_leaves 39 = .ok (.bipush 41, 2) := by decide +kernel
theorem dX7_leaves_41 : decode cX7_leaves 41 = .ok (.iload_n 3, 1) := by decide +kernel
theorem dX7_leaves_42 : decode cX7_leaves 42 = .ok (.iadd, 1) := by decide +kernel
theorem dX7_leaves_43 : decode cX7_leaves 43 = .ok (.iaload, 1) := by decide +kernel
theorem dX7_leaves_44 : decode cX7_leaves 44 = .ok (.aload_n 1, 1) := by decide +kernel
theorem dX7_leaves_45 : decode cX7_leaves 45 = .ok (.bipush 55, 2) := by decide +kernel
theorem dX7_leaves_47 : decode cX7_leaves 47 = .ok (.iload_n 2, 1) := by decide +kernel
theorem dX7_leaves_48 : decode cX7_leaves 48 = .ok (.iadd, 1) := by decide +kernel
theorem dX7_leaves_49 : decode cX7_leaves 49 = .ok (.iaload, 1) := by decide +kernel
theorem dX7_leaves_50 : decode cX7_leaves 50 = .ok (.iadd, 1) := by decide +kernel
theorem dX7_leaves_51 : decode cX7_leaves 51 = .ok (.sipush 9999, 3) := by decide +kernel
theorem dX7_leaves_54 : decode cX7_leaves 54 = .ok (.if_icmp .le 9, 3) := by decide +kernel
theorem dX7_leaves_57 : decode cX7_leaves 57 = .ok (.sipush 9999, 3) := by decide +kernel
theorem dX7_leaves_60 : decode cX7_leaves 60 = .ok (.goto 16, 3) := by decide +kernel
theorem dX7_leaves_63 : decode cX7_leaves 63 = .ok (.aload_n 1, 1) := by decide +kernel
theorem dX7_leaves_64 : decode cX7_leaves 64 = .ok (.bipush 41, 2) := by decide +kernel
theorem dX7_leaves_66 : decode cX7_leaves 66 = .ok (.iload_n 3, 1) := by decide +kernel
theorem dX7_leaves_67 : decode cX7_leaves 67 = .ok (.iadd, 1) := by decide +kernel
theorem dX7_leaves_68 : decode cX7_leaves 68 = .ok (.iaload, 1) := by decide +kernel
theorem dX7_leaves_69 : decode cX7_leaves 69 = .ok (.aload_n 1, 1) := by decide +kernel
theorem dX7_leaves_70 : decode cX7_leaves 70 = .ok (.bipush 55, 2) := by decide +kernel
theorem dX7_leaves_72 : decode cX7_leaves 72 = .ok (.iload_n 2, 1) := by decide +kernel
theorem dX7_leaves_73 : decode cX7_leaves 73 = .ok (.iadd, 1) := by decide +kernel
theorem dX7_leaves_74 : decode cX7_leaves 74 = .ok (.iaload, 1) := by decide +kernel
theorem dX7_leaves_75 : decode cX7_leaves 75 = .ok (.iadd, 1) := by decide +kernel
theorem dX7_leaves_76 : decode cX7_leaves 76 = .ok (.iastore, 1) := by decide +kernel
theorem dX7_leaves_77 : decode cX7_leaves 77 = .ok (.aload_n 0, 1) := by decide +kernel
theorem dX7_leaves_78 : decode cX7_leaves 78 = .ok (.getfield 162, 3) := by decide +kernel
theorem dX7_leaves_81 : decode cX7_leaves 81 = .ok (.iload_n 3, 1) := by decide +kernel
theorem dX7_leaves_82 : decode cX7_leaves 82 = .ok (.ishr, 1) := by decide +kernel
theorem dX7_leaves_83 : decode cX7_leaves 83 = .ok (.iconst 1, 1) := by decide +kernel
theorem dX7_leaves_84 : decode cX7_leaves 84 = .ok (.iand, 1) := by decide +kernel
theorem dX7_leaves_85 : decode cX7_leaves 85 = .ok (.iconst 1, 1) := by decide +kernel
theorem dX7_leaves_86 : decode cX7_leaves 86 = .ok (.if_icmp .ne 16, 3) := by decide +kernel
theorem dX7_leaves_89 : decode cX7_leaves 89 = .ok (.aload_n 0, 1) := by decide +kernel
theorem dX7_leaves_90 : decode cX7_leaves 90 = .ok (.aload_n 1, 1) := by decide +kernel
theorem dX7_leaves_91 : decode cX7_leaves 91 = .ok (.iload_n 2, 1) := by decide +kernel
theorem dX7_leaves_92 : decode cX7_leaves 92 = .ok (.aload_n 1, 1) := by decide +kernel
theorem dX7_leaves_93 : decode cX7_leaves 93 = .ok (.bipush 9, 2) := by decide +kernel
theorem dX7_leaves_95 : decode cX7_leaves 95 = .ok (.iload_n 3, 1) := by decide +kernel
theorem dX7_leaves_96 : decode cX7_leaves 96 = .ok (.iadd, 1) := by decide +kernel
theorem dX7_leaves_97 : decode cX7_leaves 97 = .ok (.iaload, 1) := by decide +kernel
theorem dX7_leaves_98 : decode cX7_leaves 98 = .ok (.invokevirtual 165, 3) := by decide +kernel
theorem dX7_leaves_101 : decode cX7_leaves 101 = .ok (.return_, 1) := by decide +kernel
theorem dX7_leaves_102 : decode cX7_leaves 102 = .ok (.aload_n 1, 1) := by decide +kernel
theorem dX7_leaves_103 : decode cX7_leaves 103 = .ok (.iconst 1, 1) := by decide +kernel
theorem dX7_leaves_104 : decode cX7_leaves 104 = .ok (.iload_n 3, 1) := by decide +kernel
theorem dX7_leaves_105 : decode cX7_leaves 105 = .ok (.iadd, 1) := by decide +kernel
theorem dX7_leaves_106 : decode cX7_leaves 106 = .ok (.iaload, 1) := by decide +kernel
theorem dX7_leaves_107 : decode cX7_leaves 107 = .ok (.istore 4, 2) := by decide +kernel
theorem dX7_leaves_109 : decode cX7_leaves 109 = .ok (.aload_n 0, 1) := by decide +kernel
theorem dX7_leaves_110 : decode cX7_leaves 110 = .ok (.getfield 22, 3) := by decide +kernel
theorem dX7_leaves_113 : decode cX7_leaves 113 = .ok (.iload_n 3, 1) := by decide +kernel
theorem dX7_leaves_114 : decode cX7_leaves 114 = .ok (.iaload, 1) := by decide +kernel
theorem dX7_leaves_115 : decode cX7_leaves 115 = .ok (.tableswitch 152 1 4 #[29, 41, 69, 129], 29) := by decide +kernel
theorem dX7_leaves_144 : decode cX7_leaves 144 = .ok (.aload_n 1, 1) := by decide +kernel
theorem dX7_leaves_145 : decode cX7_leaves 145 = .ok (.iconst 1, 1) := by decide +kernel
theorem dX7_leaves_146 : decode cX7_leaves 146 = .ok (.iload_n 3, 1) := by decide +kernel
theorem dX7_leaves_147 : decode cX7_leaves 147 = .ok (.iadd, 1) := by decide +kernel
theorem dX7_leaves_148 : decode cX7_leaves 148 = .ok (.iconst 1, 1) := by decide +kernel
theorem dX7_leaves_149 : decode cX7_leaves 149 = .ok (.iload 4, 2) := by decide +kernel
theorem dX7_leaves_151 : decode cX7_leaves 151 = .ok (.isub, 1) := by decide +kernel
theorem dX7_leaves_152 : decode cX7_leaves 152 = .ok (.iastore, 1) := by decide +kernel
theorem dX7_leaves_153 : decode cX7_leaves 153 = .ok (.goto 132, 3) := by decide +kernel
theorem dX7_leaves_156 : decode cX7_leaves 156 = .ok (.aload_n 1, 1) := by decide +kernel
theorem dX7_leaves_157 : decode cX7_leaves 157 = .ok (.iconst 1, 1) := by decide +kernel
theorem dX7_leaves_158 : decode cX7_leaves 158 = .ok (.iload_n 3, 1) := by decide +kernel
theorem dX7_leaves_159 : decode cX7_leaves 159 = .ok (.iadd, 1) := by decide +kernel
theorem dX7_leaves_160 : decode cX7_leaves 160 = .ok (.aload_n 1, 1) := by decide +kernel
theorem dX7_leaves_161 : decode cX7_leaves 161 = .ok (.bipush 33, 2) := by decide +kernel
theorem dX7_leaves_163 : decode cX7_leaves 163 = .ok (.iload_n 3, 1) := by decide +kernel
theorem dX7_leaves_164 : decode cX7_leaves 164 = .ok (.iadd, 1) := by decide +kernel
theorem dX7_leaves_165 : decode cX7_leaves 165 = .ok (.iaload, 1) := by decide +kernel
theorem dX7_leaves_166 : decode cX7_leaves 166 = .ok (.iconst 2, 1) := by decide +kernel
theorem dX7_leaves_167 : decode cX7_leaves 167 = .ok (.irem, 1) := by decide +kernel
theorem dX7_leaves_168 : decode cX7_leaves 168 = .ok (.ifCond .ne 10, 3) := by decide +kernel
theorem dX7_leaves_171 : decode cX7_leaves 171 = .ok (.iconst 1, 1) := by decide +kernel
theorem dX7_leaves_172 : decode cX7_leaves 172 = .ok (.iload 4, 2) := by decide +kernel
theorem dX7_leaves_174 : decode cX7_leaves 174 = .ok (.isub, 1) := by decide +kernel
theorem dX7_leaves_175 : decode cX7_leaves 175 = .ok (.goto 5, 3) := by decide +kernel
theorem dX7_leaves_178 : decode cX7_leaves 178 = .ok (.iload 4, 2) := by decide +kernel
theorem dX7_leaves_180 : decode cX7_leaves 180 = .ok (.iastore, 1) := by decide +kernel
theorem dX7_leaves_181 : decode cX7_leaves 181 = .ok (.goto 104, 3) := by decide +kernel
theorem dX7_leaves_184 : decode cX7_leaves 184 = .ok (.aload_n 1, 1) := by decide +kernel
theorem dX7_leaves_185 : decode cX7_leaves 185 = .ok (.bipush 25, 2) := by decide +kernel
theorem dX7_leaves_187 : decode cX7_leaves 187 = .ok (.iload_n 3, 1) := by decide +kernel
theorem dX7_leaves_188 : decode cX7_leaves 188 = .ok (.iadd, 1) := by decide +kernel
theorem dX7_leaves_189 : decode cX7_leaves 189 = .ok (.iaload, 1) := by decide +kernel
theorem dX7_leaves_190 : decode cX7_leaves 190 = .ok (.ldc 135, 2) := by decide +kernel
theorem dX7_leaves_192 : decode cX7_leaves 192 = .ok (.if_icmp .ne 21, 3) := by decide +kernel
theorem dX7_leaves_195 : decode cX7_leaves 195 = .ok (.aload_n 1, 1) := by decide +kernel
theorem dX7_leaves_196 : decode cX7_leaves 196 = .ok (.bipush 25, 2) := by decide +kernel
theorem dX7_leaves_198 : decode cX7_leaves 198 = .ok (.iload_n 3, 1) := by decide +kernel
theorem dX7_leaves_199 : decode cX7_leaves 199 = .ok (.iadd, 1) := by decide +kernel
theorem dX7_leaves_200 : decode cX7_leaves 200 = .ok (.iload_n 2, 1) := by decide +kernel
theorem dX7_leaves_201 : decode cX7_leaves 201 = .ok (.iastore, 1) := by decide +kernel
theorem dX7_leaves_202 : decode cX7_leaves 202 = .ok (.aload_n 1, 1) := by decide +kernel
theorem dX7_leaves_203 : decode cX7_leaves 203 = .ok (.bipush 49, 2) := by decide +kernel
theorem dX7_leaves_205 : decode cX7_leaves 205 = .ok (.iload_n 2, 1) := by decide +kernel
theorem dX7_leaves_206 : decode cX7_leaves 206 = .ok (.iadd, 1) := by decide +kernel
theorem dX7_leaves_207 : decode cX7_leaves 207 = .ok (.bipush 20, 2) := by decide +kernel
theorem dX7_leaves_209 : decode cX7_leaves 209 = .ok (.iload_n 3, 1) := by decide +kernel
theorem dX7_leaves_210 : decode cX7_leaves 210 = .ok (.iadd, 1) := by decide +kernel
theorem dX7_leaves_211 : decode cX7_leaves 211 = .ok (.iastore, 1) := by decide +kernel
theorem dX7_leaves_212 : decode cX7_leaves 212 = .ok (.return_, 1) := by decide +kernel
theorem dX7_leaves_213 : decode cX7_leaves 213 = .ok (.aload_n 0, 1) := by decide +kernel
theorem dX7_leaves_214 : decode cX7_leaves 214 = .ok (.aload_n 1, 1) := by decide +kernel
theorem dX7_leaves_215 : decode cX7_leaves 215 = .ok (.aload_n 1, 1) := by decide +kernel
theorem dX7_leaves_216 : decode cX7_leaves 216 = .ok (.bipush 25, 2) := by decide +kernel
theorem dX7_leaves_218 : decode cX7_leaves 218 = .ok (.iload_n 3, 1) := by decide +kernel
theorem dX7_leaves_219 : decode cX7_leaves 219 = .ok (.iadd, 1) := by decide +kernel
theorem dX7_leaves_220 : decode cX7_leaves 220 = .ok (.iaload, 1) := by decide +kernel
theorem dX7_leaves_221 : decode cX7_leaves 221 = .ok (.aload_n 1, 1) := by decide +kernel
theorem dX7_leaves_222 : decode cX7_leaves 222 = .ok (.bipush 9, 2) := by decide +kernel
theorem dX7_leaves_224 : decode cX7_leaves 224 = .ok (.iload_n 3, 1) := by decide +kernel
theorem dX7_leaves_225 : decode cX7_leaves 225 = .ok (.iadd, 1) := by decide +kernel
theorem dX7_leaves_226 : decode cX7_leaves 226 = .ok (.iaload, 1) := by decide +kernel
theorem dX7_leaves_227 : decode cX7_leaves 227 = .ok (.invokevirtual 165, 3) := by decide +kernel
theorem dX7_leaves_230 : decode cX7_leaves 230 = .ok (.aload_n 1, 1) := by decide +kernel
theorem dX7_leaves_231 : decode cX7_leaves 231 = .ok (.bipush 25, 2) := by decide +kernel
theorem dX7_leaves_233 : decode cX7_leaves 233 = .ok (.iload_n 3, 1) := by decide +kernel
theorem dX7_leaves_234 : decode cX7_leaves 234 = .ok (.iadd, 1) := by decide +kernel
theorem dX7_leaves_235 : decode cX7_leaves 235 = .ok (.ldc 135, 2) := by decide +kernel
theorem dX7_leaves_237 : decode cX7_leaves 237 = .ok (.iastore, 1) := by decide +kernel
theorem dX7_leaves_238 : decode cX7_leaves 238 = .ok (.iconst 1, 1) := by decide +kernel
theorem dX7_leaves_239 : decode cX7_leaves 239 = .ok (.istore 4, 2) := by decide +kernel
theorem dX7_leaves_241 : decode cX7_leaves 241 = .ok (.goto 44, 3) := by decide +kernel
theorem dX7_leaves_244 : decode cX7_leaves 244 = .ok (.aload_n 1, 1) := by decide +kernel
theorem dX7_leaves_245 : decode cX7_leaves 245 = .ok (.bipush 55, 2) := by decide +kernel
theorem dX7_leaves_247 : decode cX7_leaves 247 = .ok (.iload_n 2, 1) := by decide +kernel
theorem dX7_leaves_248 : decode cX7_leaves 248 = .ok (.iadd, 1) := by decide +kernel
theorem dX7_leaves_249 : decode cX7_leaves 249 = .ok (.iaload, 1) := by decide +kernel
theorem dX7_leaves_250 : decode cX7_leaves 250 = .ok (.aload_n 0, 1) := by decide +kernel
theorem dX7_leaves_251 : decode cX7_leaves 251 = .ok (.getfield 152, 3) := by decide +kernel
theorem dX7_leaves_254 : decode cX7_leaves 254 = .ok (.if_icmp .lt 7, 3) := by decide +kernel
theorem dX7_leaves_257 : decode cX7_leaves 257 = .ok (.iconst 1, 1) := by decide +kernel
theorem dX7_leaves_258 : decode cX7_leaves 258 = .ok (.goto 4, 3) := by decide +kernel
theorem dX7_leaves_261 : decode cX7_leaves 261 = .ok (.iconst 0, 1) := by decide +kernel
theorem dX7_leaves_262 : decode cX7_leaves 262 = .ok (.istore 4, 2) := by decide +kernel
theorem dX7_leaves_264 : decode cX7_leaves 264 = .ok (.goto 21, 3) := by decide +kernel
theorem dX7_leaves_267 : decode cX7_leaves 267 = .ok (.aload_n 1, 1) := by decide +kernel
theorem dX7_leaves_268 : decode cX7_leaves 268 = .ok (.bipush 41, 2) := by decide +kernel
theorem dX7_leaves_270 : decode cX7_leaves 270 = .ok (.iload_n 3, 1) := by decide +kernel
theorem dX7_leaves_271 : decode cX7_leaves 271 = .ok (.iadd, 1) := by decide +kernel
theorem dX7_leaves_272 : decode cX7_leaves 272 = .ok (.iaload, 1) := by decide +kernel
theorem dX7_leaves_273 : decode cX7_leaves 273 = .ok (.iconst 2, 1) := by decide +kernel
theorem dX7_leaves_274 : decode cX7_leaves 274 = .ok (.irem, 1) := by decide +kernel
theorem dX7_leaves_275 : decode cX7_leaves 275 = .ok (.ifCond .ne 7, 3) := by decide +kernel
theorem dX7_leaves_278 : decode cX7_leaves 278 = .ok (.iconst 1, 1) := by decide +kernel
theorem dX7_leaves_279 : decode cX7_leaves 279 = .ok (.goto 4, 3) := by decide +kernel
theorem dX7_leaves_282 : decode cX7_leaves 282 = .ok (.iconst 0, 1) := by decide +kernel
theorem dX7_leaves_283 : decode cX7_leaves 283 = .ok (.istore 4, 2) := by decide +kernel
theorem dX7_leaves_285 : decode cX7_leaves 285 = .ok (.aload_n 0, 1) := by decide +kernel
theorem dX7_leaves_286 : decode cX7_leaves 286 = .ok (.aload_n 1, 1) := by decide +kernel
theorem dX7_leaves_287 : decode cX7_leaves 287 = .ok (.iload_n 2, 1) := by decide +kernel
theorem dX7_leaves_288 : decode cX7_leaves 288 = .ok (.aload_n 1, 1) := by decide +kernel
theorem dX7_leaves_289 : decode cX7_leaves 289 = .ok (.iload 4, 2) := by decide +kernel
theorem dX7_leaves_291 : decode cX7_leaves 291 = .ok (.iconst 1, 1) := by decide +kernel
theorem dX7_leaves_292 : decode cX7_leaves 292 = .ok (.if_icmp .ne 10, 3) := by decide +kernel
theorem dX7_leaves_295 : decode cX7_leaves 295 = .ok (.bipush 17, 2) := by decide +kernel
theorem dX7_leaves_297 : decode cX7_leaves 297 = .ok (.iload_n 3, 1) := by decide +kernel
theorem dX7_leaves_298 : decode cX7_leaves 298 = .ok (.iadd, 1) := by decide +kernel
theorem dX7_leaves_299 : decode cX7_leaves 299 = .ok (.goto 7, 3) := by decide +kernel
theorem dX7_leaves_302 : decode cX7_leaves 302 = .ok (.bipush 9, 2) := by decide +kernel
theorem dX7_leaves_304 : decode cX7_leaves 304 = .ok (.iload_n 3, 1) := by decide +kernel
theorem dX7_leaves_305 : decode cX7_leaves 305 = .ok (.iadd, 1) := by decide +kernel
theorem dX7_leaves_306 : decode cX7_leaves 306 = .ok (.iaload, 1) := by decide +kernel
theorem dX7_leaves_307 : decode cX7_leaves 307 = .ok (.invokevirtual 165, 3) := by decide +kernel
theorem dX7_leaves_310 : decode cX7_leaves 310 = .ok (.return_, 1) := by decide +kernel
theorem dX7_tickOn_0 : decode cX7_tickOn 0 = .ok (.iconst 0, 1) := by decide +kernel
theorem dX7_tickOn_1 : decode cX7_tickOn 1 = .ok (.istore_n 2, 1) := by decide +kernel
theorem dX7_tickOn_2 : decode cX7_tickOn 2 = .ok (.iconst 0, 1) := by decide +kernel
theorem dX7_tickOn_3 : decode cX7_tickOn 3 = .ok (.istore_n 3, 1) := by decide +kernel
theorem dX7_tickOn_4 : decode cX7_tickOn 4 = .ok (.iload_n 3, 1) := by decide +kernel
theorem dX7_tickOn_5 : decode cX7_tickOn 5 = .ok (.aload_n 0, 1) := by decide +kernel
theorem dX7_tickOn_6 : decode cX7_tickOn 6 = .ok (.getfield 74, 3) := by decide +kernel
theorem dX7_tickOn_9 : decode cX7_tickOn 9 = .ok (.if_icmp .ge 60, 3) := by decide +kernel
theorem dX7_tickOn_12 : decode cX7_tickOn 12 = .ok (.aload_n 1, 1) := by decide +kernel
theorem dX7_tickOn_13 : decode cX7_tickOn 13 = .ok (.bipush 49, 2) := by decide +kernel
theorem dX7_tickOn_15 : decode cX7_tickOn 15 = .ok (.iload_n 3, 1) := by decide +kernel
theorem dX7_tickOn_16 : decode cX7_tickOn 16 = .ok (.iadd, 1) := by decide +kernel
theorem dX7_tickOn_17 : decode cX7_tickOn 17 = .ok (.iaload, 1) := by decide +kernel
theorem dX7_tickOn_18 : decode cX7_tickOn 18 = .ok (.bipush 10, 2) := by decide +kernel
theorem dX7_tickOn_20 : decode cX7_tickOn 20 = .ok (.if_icmp .ne 22, 3) := by decide +kernel
theorem dX7_tickOn_23 : decode cX7_tickOn 23 = .ok (.aload_n 1, 1) := by decide +kernel
theorem dX7_tickOn_24 : decode cX7_tickOn 24 = .ok (.bipush 61, 2) := by decide +kernel
theorem dX7_tickOn_26 : decode cX7_tickOn 26 = .ok (.iload_n 3, 1) := by decide +kernel
theorem dX7_tickOn_27 : decode cX7_tickOn 27 = .ok (.iadd, 1) := by decide +kernel
theorem dX7_tickOn_28 : decode cX7_tickOn 28 = .ok (.iaload, 1) := by decide +kernel
theorem dX7_tickOn_29 : decode cX7_tickOn 29 = .ok (.aload_n 1, 1) := by decide +kernel
theorem dX7_tickOn_30 : decode cX7_tickOn 30 = .ok (.iconst 0, 1) := by decide +kernel
theorem dX7_tickOn_31 : decode cX7_tickOn 31 = .ok (.iaload, 1) := by decide +kernel
theorem dX7_tickOn_32 : decode cX7_tickOn 32 = .ok (.if_icmp .gt 10, 3) := by decide +kernel
theorem dX7_tickOn_35 : decode cX7_tickOn 35 = .ok (.aload_n 1, 1) := by decide +kernel
theorem dX7_tickOn_36 : decode cX7_tickOn 36 = .ok (.bipush 49, 2) := by decide +kernel
theorem dX7_tickOn_38 : decode cX7_tickOn 38 = .ok (.iload_n 3, 1) := by decide +kernel
theorem dX7_tickOn_39 : decode cX7_tickOn 39 = .ok (.iadd, 1) := by decide +kernel
theorem dX7_tickOn_40 : decode cX7_tickOn 40 = .ok (.iconst 0, 1) := by decide +kernel
theorem dX7_tickOn_41 : decode cX7_tickOn 41 = .ok (.iastore, 1) := by decide +kernel
theorem dX7_tickOn_42 : decode cX7_tickOn 42 = .ok (.iload_n 2, 1) := by decide +kernel
theorem dX7_tickOn_43 : decode cX7_tickOn 43 = .ok (.aload_n 1, 1) := by decide +kernel
theorem dX7_tickOn_44 : decode cX7_tickOn 44 = .ok (.bipush 49, 2) := by decide +kernel
theorem dX7_tickOn_46 : decode cX7_tickOn 46 = .ok (.iload_n 3, 1) := by decide +kernel
theorem dX7_tickOn_47 : decode cX7_tickOn 47 = .ok (.iadd, 1) := by decide +kernel
theorem dX7_tickOn_48 : decode cX7_tickOn 48 = .ok (.iaload, 1) := by decide +kernel
theorem dX7_tickOn_49 : decode cX7_tickOn 49 = .ok (.bipush 8, 2) := by decide +kernel
theorem dX7_tickOn_51 : decode cX7_tickOn 51 = .ok (.if_icmp .ge 9, 3) := by decide +kernel
theorem dX7_tickOn_54 : decode cX7_tickOn 54 = .ok (.iconst 1, 1) := by decide +kernel
theorem dX7_tickOn_55 : decode cX7_tickOn 55 = .ok (.iload_n 3, 1) := by decide +kernel
theorem dX7_tickOn_56 : decode cX7_tickOn 56 = .ok (.ishl, 1) := by decide +kernel
theorem dX7_tickOn_57 : decode cX7_tickOn 57 = .ok (.goto 4, 3) := by decide +kernel
theorem dX7_tickOn_60 : decode cX7_tickOn 60 = .ok (.iconst 0, 1) := by decide +kernel
theorem dX7_tickOn_61 : decode cX7_tickOn 61 = .ok (.ior, 1) := by decide +kernel
theorem dX7_tickOn_62 : decode cX7_tickOn 62 = .ok (.istore_n 2, 1) := by decide +kernel
theorem dX7_tickOn_63 : decode cX7_tickOn 63 = .ok (.iinc 3 1, 3) := by decide +kernel
theorem dX7_tickOn_66 : decode cX7_tickOn 66 = .ok (.goto (-62), 3) := by decide +kernel
theorem dX7_tickOn_69 : decode cX7_tickOn 69 = .ok (.iconst 0, 1) := by decide +kernel
theorem dX7_tickOn_70 : decode cX7_tickOn 70 = .ok (.istore_n 3, 1) := by decide +kernel
theorem dX7_tickOn_71 : decode cX7_tickOn 71 = .ok (.iload_n 3, 1) := by decide +kernel
theorem dX7_tickOn_72 : decode cX7_tickOn 72 = .ok (.aload_n 0, 1) := by decide +kernel
theorem dX7_tickOn_73 : decode cX7_tickOn 73 = .ok (.getfield 74, 3) := by decide +kernel
theorem dX7_tickOn_76 : decode cX7_tickOn 76 = .ok (.if_icmp .ge 24, 3) := by decide +kernel
theorem dX7_tickOn_79 : decode cX7_tickOn 79 = .ok (.iload_n 2, 1) := by decide +kernel
theorem dX7_tickOn_80 : decode cX7_tickOn 80 = .ok (.iload_n 3, 1) := by decide +kernel
theorem dX7_tickOn_81 : decode cX7_tickOn 81 = .ok (.ishr, 1) := by decide +kernel
theorem dX7_tickOn_82 : decode cX7_tickOn 82 = .ok (.iconst 1, 1) := by decide +kernel
theorem dX7_tickOn_83 : decode cX7_tickOn 83 = .ok (.iand, 1) := by decide +kernel
theorem dX7_tickOn_84 : decode cX7_tickOn 84 = .ok (.iconst 1, 1) := by decide +kernel
theorem dX7_tickOn_85 : decode cX7_tickOn 85 = .ok (.if_icmp .ne 9, 3) := by decide +kernel
theorem dX7_tickOn_88 : decode cX7_tickOn 88 = .ok (.aload_n 0, 1) := by decide +kernel
theorem dX7_tickOn_89 : decode cX7_tickOn 89 = .ok (.aload_n 1, 1) := by decide +kernel
theorem dX7_tickOn_90 : decode cX7_tickOn 90 = .ok (.iload_n 3, 1) := by decide +kernel
theorem dX7_tickOn_91 : decode cX7_tickOn 91 = .ok (.invokevirtual 169, 3) := by decide +kernel
theorem dX7_tickOn_94 : decode cX7_tickOn 94 = .ok (.iinc 3 1, 3) := by decide +kernel
theorem dX7_tickOn_97 : decode cX7_tickOn 97 = .ok (.goto (-26), 3) := by decide +kernel
theorem dX7_tickOn_100 : decode cX7_tickOn 100 = .ok (.aload_n 1, 1) := by decide +kernel
theorem dX7_tickOn_101 : decode cX7_tickOn 101 = .ok (.iconst 0, 1) := by decide +kernel
theorem dX7_tickOn_102 : decode cX7_tickOn 102 = .ok (.dup2, 1) := by decide +kernel
theorem dX7_tickOn_103 : decode cX7_tickOn 103 = .ok (.iaload, 1) := by decide +kernel
theorem dX7_tickOn_104 : decode cX7_tickOn 104 = .ok (.iconst 1, 1) := by decide +kernel
theorem dX7_tickOn_105 : decode cX7_tickOn 105 = .ok (.iadd, 1) := by decide +kernel
theorem dX7_tickOn_106 : decode cX7_tickOn 106 = .ok (.iastore, 1) := by decide +kernel
theorem dX7_tickOn_107 : decode cX7_tickOn 107 = .ok (.return_, 1) := by decide +kernel
theorem dX7_those_0 : decode cX7_those 0 = .ok (.iconst 0, 1) := by decide +kernel
theorem dX7_those_1 : decode cX7_those 1 = .ok (.istore 4, 2) := by decide +kernel
theorem dX7_those_3 : decode cX7_those 3 = .ok (.iconst 0, 1) := by decide +kernel
theorem dX7_those_4 : decode cX7_those 4 = .ok (.istore 5, 2) := by decide +kernel
theorem dX7_those_6 : decode cX7_those 6 = .ok (.iload 5, 2) := by decide +kernel
theorem dX7_those_8 : decode cX7_those 8 = .ok (.aload_n 0, 1) := by decide +kernel
theorem dX7_those_9 : decode cX7_those 9 = .ok (.getfield 74, 3) := by decide +kernel
theorem dX7_those_12 : decode cX7_those 12 = .ok (.if_icmp .ge 37, 3) := by decide +kernel
theorem dX7_those_15 : decode cX7_those 15 = .ok (.iload 4, 2) := by decide +kernel
theorem dX7_those_17 : decode cX7_those 17 = .ok (.aload_n 1, 1) := by decide +kernel
theorem dX7_those_18 : decode cX7_those 18 = .ok (.bipush 49, 2) := by decide +kernel
theorem dX7_those_20 : decode cX7_those 20 = .ok (.iload 5, 2) := by decide +kernel
theorem dX7_those_22 : decode cX7_those 22 = .ok (.iadd, 1) := by decide +kernel
theorem dX7_those_23 : decode cX7_those 23 = .ok (.iaload, 1) := by decide +kernel
theorem dX7_those_24 : decode cX7_those 24 = .ok (.iload_n 2, 1) := by decide +kernel
theorem dX7_those_25 : decode cX7_those 25 = .ok (.iload_n 3, 1) := by decide +kernel
theorem dX7_those_26 : decode cX7_those 26 = .ok (.invokestatic 70, 3) := by decide +kernel
theorem dX7_those_29 : decode cX7_those 29 = .ok (.ifCond .eq 10, 3) := by decide +kernel
theorem dX7_those_32 : decode cX7_those 32 = .ok (.iconst 1, 1) := by decide +kernel
theorem dX7_those_33 : decode cX7_those 33 = .ok (.iload 5, 2) := by decide +kernel
theorem dX7_those_35 : decode cX7_those 35 = .ok (.ishl, 1) := by decide +kernel
theorem dX7_those_36 : decode cX7_those 36 = .ok (.goto 4, 3) := by decide +kernel
theorem dX7_those_39 : decode cX7_those 39 = .ok (.iconst 0, 1) := by decide +kernel
theorem dX7_those_40 : decode cX7_those 40 = .ok (.ior, 1) := by decide +kernel
theorem dX7_those_41 : decode cX7_those 41 = .ok (.istore 4, 2) := by decide +kernel
theorem dX7_those_43 : decode cX7_those 43 = .ok (.iinc 5 1, 3) := by decide +kernel
theorem dX7_those_46 : decode cX7_those 46 = .ok (.goto (-40), 3) := by decide +kernel
theorem dX7_those_49 : decode cX7_those 49 = .ok (.iload 4, 2) := by decide +kernel
theorem dX7_those_51 : decode cX7_those 51 = .ok (.ireturn, 1) := by decide +kernel
theorem dX7_isInTray_0 : decode cX7_isInTray 0 = .ok (.aload_n 1, 1) := by decide +kernel
theorem dX7_isInTray_1 : decode cX7_isInTray 1 = .ok (.bipush 49, 2) := by decide +kernel
theorem dX7_isInTray_3 : decode cX7_isInTray 3 = .ok (.iload_n 2, 1) := by decide +kernel
theorem dX7_isInTray_4 : decode cX7_isInTray 4 = .ok (.iadd, 1) := by decide +kernel
theorem dX7_isInTray_5 : decode cX7_isInTray 5 = .ok (.iaload, 1) := by decide +kernel
theorem dX7_isInTray_6 : decode cX7_isInTray 6 = .ok (.bipush 8, 2) := by decide +kernel
theorem dX7_isInTray_8 : decode cX7_isInTray 8 = .ok (.if_icmp .eq 14, 3) := by decide +kernel
theorem dX7_isInTray_11 : decode cX7_isInTray 11 = .ok (.aload_n 1, 1) := by decide +kernel
theorem dX7_isInTray_12 : decode cX7_isInTray 12 = .ok (.bipush 49, 2) := by decide +kernel
theorem dX7_isInTray_14 : decode cX7_isInTray 14 = .ok (.iload_n 2, 1) := by decide +kernel
theorem dX7_isInTray_15 : decode cX7_isInTray 15 = .ok (.iadd, 1) := by decide +kernel
theorem dX7_isInTray_16 : decode cX7_isInTray 16 = .ok (.iaload, 1) := by decide +kernel
theorem dX7_isInTray_17 : decode cX7_isInTray 17 = .ok (.bipush 9, 2) := by decide +kernel
theorem dX7_isInTray_19 : decode cX7_isInTray 19 = .ok (.if_icmp .ne 7, 3) := by decide +kernel
theorem dX7_isInTray_22 : decode cX7_isInTray 22 = .ok (.iconst 1, 1) := by decide +kernel
theorem dX7_isInTray_23 : decode cX7_isInTray 23 = .ok (.goto 4, 3) := by decide +kernel
theorem dX7_isInTray_26 : decode cX7_isInTray 26 = .ok (.iconst 0, 1) := by decide +kernel
theorem dX7_isInTray_27 : decode cX7_isInTray 27 = .ok (.ireturn, 1) := by decide +kernel
theorem dX7_notes_0 : decode cX7_notes 0 = .ok (.aload_n 0, 1) := by decide +kernel
theorem dX7_notes_1 : decode cX7_notes 1 = .ok (.getfield 159, 3) := by decide +kernel
theorem dX7_notes_4 : decode cX7_notes 4 = .ok (.bipush 24, 2) := by decide +kernel
theorem dX7_notes_6 : decode cX7_notes 6 = .ok (.if_icmp .ne 30, 3) := by decide +kernel
theorem dX7_notes_9 : decode cX7_notes 9 = .ok (.aload_n 0, 1) := by decide +kernel
theorem dX7_notes_10 : decode cX7_notes 10 = .ok (.getfield 28, 3) := by decide +kernel
theorem dX7_notes_13 : decode cX7_notes 13 = .ok (.bipush 67, 2) := by decide +kernel
theorem dX7_notes_15 : decode cX7_notes 15 = .ok (.aload_n 0, 1) := by decide +kernel
theorem dX7_notes_16 : decode cX7_notes 16 = .ok (.getfield 28, 3) := by decide +kernel
theorem dX7_notes_19 : decode cX7_notes 19 = .ok (.iconst 0, 1) := by decide +kernel
theorem dX7_notes_20 : decode cX7_notes 20 = .ok (.sipush 1541, 3) := by decide +kernel
theorem dX7_notes_23 : decode cX7_notes 23 = .ok (.invokestatic 155, 3) := by decide +kernel
theorem dX7_notes_26 : decode cX7_notes 26 = .ok (.aload_n 0, 1) := by decide +kernel
theorem dX7_notes_27 : decode cX7_notes 27 = .ok (.dup, 1) := by decide +kernel
theorem dX7_notes_28 : decode cX7_notes 28 = .ok (.getfield 159, 3) := by decide +kernel
theorem dX7_notes_31 : decode cX7_notes 31 = .ok (.iconst 1, 1) := by decide +kernel
theorem dX7_notes_32 : decode cX7_notes 32 = .ok (.isub, 1) := by decide +kernel
theorem dX7_notes_33 : decode cX7_notes 33 = .ok (.putfield 159, 3) := by decide +kernel
theorem dX7_notes_36 : decode cX7_notes 36 = .ok (.aload_n 0, 1) := by decide +kernel
theorem dX7_notes_37 : decode cX7_notes 37 = .ok (.getfield 25, 3) := by decide +kernel
theorem dX7_notes_40 : decode cX7_notes 40 = .ok (.iconst 0, 1) := by decide +kernel
theorem dX7_notes_41 : decode cX7_notes 41 = .ok (.aload_n 0, 1) := by decide +kernel
theorem dX7_notes_42 : decode cX7_notes 42 = .ok (.getfield 28, 3) := by decide +kernel
theorem dX7_notes_45 : decode cX7_notes 45 = .ok (.bipush 67, 2) := by decide +kernel
theorem dX7_notes_47 : decode cX7_notes 47 = .ok (.aload_n 0, 1) := by decide +kernel
theorem dX7_notes_48 : decode cX7_notes 48 = .ok (.getfield 159, 3) := by decide +kernel
theorem dX7_notes_51 : decode cX7_notes 51 = .ok (.imul, 1) := by decide +kernel
theorem dX7_notes_52 : decode cX7_notes 52 = .ok (.bipush 67, 2) := by decide +kernel
theorem dX7_notes_54 : decode cX7_notes 54 = .ok (.invokestatic 155, 3) := by decide +kernel
theorem dX7_notes_57 : decode cX7_notes 57 = .ok (.aload_n 0, 1) := by decide +kernel
theorem dX7_notes_58 : decode cX7_notes 58 = .ok (.dup, 1) := by decide +kernel
theorem dX7_notes_59 : decode cX7_notes 59 = .ok (.getfield 159, 3) := by decide +kernel
theorem dX7_notes_62 : decode cX7_notes 62 = .ok (.iconst 1, 1) := by decide +kernel
theorem dX7_notes_63 : decode cX7_notes 63 = .ok (.iadd, 1) := by decide +kernel
theorem dX7_notes_64 : decode cX7_notes 64 = .ok (.putfield 159, 3) := by decide +kernel
theorem dX7_notes_67 : decode cX7_notes 67 = .ok (.return_, 1) := by decide +kernel
theorem dX7_undo_0 : decode cX7_undo 0 = .ok (.aload_n 0, 1) := by decide +kernel
theorem dX7_undo_1 : decode cX7_undo 1 = .ok (.getfield 159, 3) := by decide +kernel
theorem dX7_undo_4 : decode cX7_undo 4 = .ok (.ifCond .ne 6, 3) := by decide +kernel
theorem dX7_undo_7 : decode cX7_undo 7 = .ok (.ldc 173, 2) := by decide +kernel
theorem dX7_undo_9 : decode cX7_undo 9 = .ok (.ireturn, 1) := by decide +kernel
theorem dX7_undo_10 : decode cX7_undo 10 = .ok (.aload_n 0, 1) := by decide +kernel
theorem dX7_undo_11 : decode cX7_undo 11 = .ok (.dup, 1) := by decide +kernel
theorem dX7_undo_12 : decode cX7_undo 12 = .ok (.getfield 159, 3) := by decide +kernel
theorem dX7_undo_15 : decode cX7_undo 15 = .ok (.iconst 1, 1) := by decide +kernel
theorem dX7_undo_16 : decode cX7_undo 16 = .ok (.isub, 1) := by decide +kernel
theorem dX7_undo_17 : decode cX7_undo 17 = .ok (.putfield 159, 3) := by decide +kernel
theorem dX7_undo_20 : decode cX7_undo 20 = .ok (.aload_n 0, 1) := by decide +kernel
theorem dX7_undo_21 : decode cX7_undo 21 = .ok (.getfield 28, 3) := by decide +kernel
theorem dX7_undo_24 : decode cX7_undo 24 = .ok (.bipush 67, 2) := by decide +kernel
theorem dX7_undo_26 : decode cX7_undo 26 = .ok (.aload_n 0, 1) := by decide +kernel
theorem dX7_undo_27 : decode cX7_undo 27 = .ok (.getfield 159, 3) := by decide +kernel
theorem dX7_undo_30 : decode cX7_undo 30 = .ok (.imul, 1) := by decide +kernel
theorem dX7_undo_31 : decode cX7_undo 31 = .ok (.aload_n 0, 1) := by decide +kernel
theorem dX7_undo_32 : decode cX7_undo 32 = .ok (.getfield 25, 3) := by decide +kernel
theorem dX7_undo_35 : decode cX7_undo 35 = .ok (.iconst 0, 1) := by decide +kernel
theorem dX7_undo_36 : decode cX7_undo 36 = .ok (.bipush 67, 2) := by decide +kernel
theorem dX7_undo_38 : decode cX7_undo 38 = .ok (.invokestatic 155, 3) := by decide +kernel
theorem dX7_undo_41 : decode cX7_undo 41 = .ok (.aload_n 0, 1) := by decide +kernel
theorem dX7_undo_42 : decode cX7_undo 42 = .ok (.getfield 159, 3) := by decide +kernel
theorem dX7_undo_45 : decode cX7_undo 45 = .ok (.ireturn, 1) := by decide +kernel
theorem dX7_ticks_0 : decode cX7_ticks 0 = .ok (.aload_n 0, 1) := by decide +kernel
theorem dX7_ticks_1 : decode cX7_ticks 1 = .ok (.invokevirtual 174, 3) := by decide +kernel
theorem dX7_ticks_4 : decode cX7_ticks 4 = .ok (.ifCond .eq 6, 3) := by decide +kernel
theorem dX7_ticks_7 : decode cX7_ticks 7 = .ok (.ldc 173, 2) := by decide +kernel
theorem dX7_ticks_9 : decode cX7_ticks 9 = .ok (.ireturn, 1) := by decide +kernel
theorem dX7_ticks_10 : decode cX7_ticks 10 = .ok (.iload_n 1, 1) := by decide +kernel
theorem dX7_ticks_11 : decode cX7_ticks 11 = .ok (.iconst 1, 1) := by decide +kernel
theorem dX7_ticks_12 : decode cX7_ticks 12 = .ok (.bipush 24, 2) := by decide +kernel
theorem dX7_ticks_14 : decode cX7_ticks 14 = .ok (.invokestatic 70, 3) := by decide +kernel
theorem dX7_ticks_17 : decode cX7_ticks 17 = .ok (.ifCond .ne 6, 3) := by decide +kernel
theorem dX7_ticks_20 : decode cX7_ticks 20 = .ok (.ldc 84, 2) := by decide +kernel
theorem dX7_ticks_22 : decode cX7_ticks 22 = .ok (.ireturn, 1) := by decide +kernel
theorem dX7_ticks_23 : decode cX7_ticks 23 = .ok (.aload_n 0, 1) := by decide +kernel
theorem dX7_ticks_24 : decode cX7_ticks 24 = .ok (.getfield 25, 3) := by decide +kernel
theorem dX7_ticks_27 : decode cX7_ticks 27 = .ok (.iconst 0, 1) := by decide +kernel
theorem dX7_ticks_28 : decode cX7_ticks 28 = .ok (.iaload, 1) := by decide +kernel
theorem dX7_ticks_29 : decode cX7_ticks 29 = .ok (.iload_n 1, 1) := by decide +kernel
theorem dX7_ticks_30 : decode cX7_ticks 30 = .ok (.iadd, 1) := by decide +kernel
theorem dX7_ticks_31 : decode cX7_ticks 31 = .ok (.sipush 999, 3) := by decide +kernel
theorem dX7_ticks_34 : decode cX7_ticks 34 = .ok (.if_icmp .le 6, 3) := by decide +kernel
theorem dX7_ticks_37 : decode cX7_ticks 37 = .ok (.ldc 99, 2) := by decide +kernel
theorem dX7_ticks_39 : decode cX7_ticks 39 = .ok (.ireturn, 1) := by decide +kernel
theorem dX7_ticks_40 : decode cX7_ticks 40 = .ok (.iconst 0, 1) := by decide +kernel
theorem dX7_ticks_41 : decode cX7_ticks 41 = .ok (.istore_n 2, 1) := by decide +kernel
theorem dX7_ticks_42 : decode cX7_ticks 42 = .ok (.iload_n 2, 1) := by decide +kernel
theorem dX7_ticks_43 : decode cX7_ticks 43 = .ok (.iload_n 1, 1) := by decide +kernel
theorem dX7_ticks_44 : decode cX7_ticks 44 = .ok (.if_icmp .ge 21, 3) := by decide +kernel
theorem dX7_ticks_47 : decode cX7_ticks 47 = .ok (.aload_n 0, 1) := by decide +kernel
theorem dX7_ticks_48 : decode cX7_ticks 48 = .ok (.invokevirtual 178, 3) := by decide +kernel
theorem dX7_ticks_51 : decode cX7_ticks 51 = .ok (.aload_n 0, 1) := by decide +kernel
theorem dX7_ticks_52 : decode cX7_ticks 52 = .ok (.aload_n 0, 1) := by decide +kernel
theorem dX7_ticks_53 : decode cX7_ticks 53 = .ok (.getfield 25, 3) := by decide +kernel
theorem dX7_ticks_56 : decode cX7_ticks 56 = .ok (.invokevirtual 181, 3) := by decide +kernel
theorem dX7_ticks_59 : decode cX7_ticks 59 = .ok (.iinc 2 1, 3) := by decide +kernel
theorem dX7_ticks_62 : decode cX7_ticks 62 = .ok (.goto (-20), 3) := by decide +kernel
theorem dX7_ticks_65 : decode cX7_ticks 65 = .ok (.aload_n 0, 1) := by decide +kernel
theorem dX7_ticks_66 : decode cX7_ticks 66 = .ok (.aload_n 0, 1) := by decide +kernel
theorem dX7_ticks_67 : decode cX7_ticks 67 = .ok (.getfield 25, 3) := by decide +kernel
theorem dX7_ticks_70 : decode cX7_ticks 70 = .ok (.bipush 9, 2) := by decide +kernel
theorem dX7_ticks_72 : decode cX7_ticks 72 = .ok (.bipush 9, 2) := by decide +kernel
theorem dX7_ticks_74 : decode cX7_ticks 74 = .ok (.invokevirtual 185, 3) := by decide +kernel
theorem dX7_ticks_77 : decode cX7_ticks 77 = .ok (.ireturn, 1) := by decide +kernel
theorem dX7_tip_0 : decode cX7_tip 0 = .ok (.aload_n 0, 1) := by decide +kernel
theorem dX7_tip_1 : decode cX7_tip 1 = .ok (.iload_n 1, 1) := by decide +kernel
theorem dX7_tip_2 : decode cX7_tip 2 = .ok (.invokevirtual 189, 3) := by decide +kernel
theorem dX7_tip_5 : decode cX7_tip 5 = .ok (.ifCond .ne 6, 3) := by decide +kernel
theorem dX7_tip_8 : decode cX7_tip 8 = .ok (.ldc 84, 2) := by decide +kernel
theorem dX7_tip_10 : decode cX7_tip 10 = .ok (.ireturn, 1) := by decide +kernel
theorem dX7_tip_11 : decode cX7_tip 11 = .ok (.aload_n 0, 1) := by decide +kernel
theorem dX7_tip_12 : decode cX7_tip 12 = .ok (.invokevirtual 178, 3) := by decide +kernel
theorem dX7_tip_15 : decode cX7_tip 15 = .ok (.aload_n 0, 1) := by decide +kernel
theorem dX7_tip_16 : decode cX7_tip 16 = .ok (.getfield 25, 3) := by decide +kernel
theorem dX7_tip_19 : decode cX7_tip 19 = .ok (.iconst 1, 1) := by decide +kernel
theorem dX7_tip_20 : decode cX7_tip 20 = .ok (.iload_n 1, 1) := by decide +kernel
theorem dX7_tip_21 : decode cX7_tip 21 = .ok (.iadd, 1) := by decide +kernel
theorem dX7_tip_22 : decode cX7_tip 22 = .ok (.iconst 1, 1) := by decide +kernel
theorem dX7_tip_23 : decode cX7_tip 23 = .ok (.aload_n 0, 1) := by decide +kernel
theorem dX7_tip_24 : decode cX7_tip 24 = .ok (.getfield 25, 3) := by decide +kernel
theorem dX7_tip_27 : decode cX7_tip 27 = .ok (.iconst 1, 1) := by decide +kernel
theorem dX7_tip_28 : decode cX7_tip 28 = .ok (.iload_n 1, 1) := by decide +kernel
theorem dX7_tip_29 : decode cX7_tip 29 = .ok (.iadd, 1) := by decide +kernel
theorem dX7_tip_30 : decode cX7_tip 30 = .ok (.iaload, 1) := by decide +kernel
theorem dX7_tip_31 : decode cX7_tip 31 = .ok (.isub, 1) := by decide +kernel
theorem dX7_tip_32 : decode cX7_tip 32 = .ok (.iastore, 1) := by decide +kernel
theorem dX7_tip_33 : decode cX7_tip 33 = .ok (.aload_n 0, 1) := by decide +kernel
theorem dX7_tip_34 : decode cX7_tip 34 = .ok (.getfield 25, 3) := by decide +kernel
theorem dX7_tip_37 : decode cX7_tip 37 = .ok (.iconst 1, 1) := by decide +kernel
theorem dX7_tip_38 : decode cX7_tip 38 = .ok (.iload_n 1, 1) := by decide +kernel
theorem dX7_tip_39 : decode cX7_tip 39 = .ok (.iadd, 1) := by decide +kernel
theorem dX7_tip_40 : decode cX7_tip 40 = .ok (.iaload, 1) := by decide +kernel
theorem dX7_tip_41 : decode cX7_tip 41 = .ok (.ireturn, 1) := by decide +kernel
theorem dX7_lead_0 : decode cX7_lead 0 = .ok (.aload_n 0, 1) := by decide +kernel
theorem dX7_lead_1 : decode cX7_lead 1 = .ok (.iload_n 1, 1) := by decide +kernel
theorem dX7_lead_2 : decode cX7_lead 2 = .ok (.invokevirtual 189, 3) := by decide +kernel
theorem dX7_lead_5 : decode cX7_lead 5 = .ok (.ifCond .eq 24, 3) := by decide +kernel
theorem dX7_lead_8 : decode cX7_lead 8 = .ok (.iload_n 2, 1) := by decide +kernel
theorem dX7_lead_9 : decode cX7_lead 9 = .ok (.iconst 0, 1) := by decide +kernel
theorem dX7_lead_10 : decode cX7_lead 10 = .ok (.iconst 1, 1) := by decide +kernel
theorem dX7_lead_11 : decode cX7_lead 11 = .ok (.invokestatic 70, 3) := by decide +kernel
theorem dX7_lead_14 : decode cX7_lead 14 = .ok (.ifCond .eq 15, 3) := by decide +kernel
theorem dX7_lead_17 : decode cX7_lead 17 = .ok (.iload_n 3, 1) := by decide +kernel
theorem dX7_lead_18 : decode cX7_lead 18 = .ok (.iload_n 1, 1) := by decide +kernel
theorem dX7_lead_19 : decode cX7_lead 19 = .ok (.iconst 1, 1) := by decide +kernel
theorem dX7_lead_20 : decode cX7_lead 20 = .ok (.iadd, 1) := by decide +kernel
theorem dX7_lead_21 : decode cX7_lead 21 = .ok (.bipush 9, 2) := by decide +kernel
theorem dX7_lead_23 : decode cX7_lead 23 = .ok (.invokestatic 70, 3) := by decide +kernel
theorem dX7_lead_26 : decode cX7_lead 26 = .ok (.ifCond .ne 6, 3) := by decide +kernel
theorem dX7_lead_29 : decode cX7_lead 29 = .ok (.ldc 84, 2) := by decide +kernel
theorem dX7_lead_31 : decode cX7_lead 31 = .ok (.ireturn, 1) := by decide +kernel
theorem dX7_lead_32 : decode cX7_lead 32 = .ok (.iload_n 2, 1) := by decide +kernel
theorem dX7_lead_33 : decode cX7_lead 33 = .ok (.ifCond .ne 10, 3) := by decide +kernel
theorem dX7_lead_36 : decode cX7_lead 36 = .ok (.bipush 9, 2) := by decide +kernel
theorem dX7_lead_38 : decode cX7_lead 38 = .ok (.iload_n 1, 1) := by decide +kernel
theorem dX7_lead_39 : decode cX7_lead 39 = .ok (.iadd, 1) := by decide +kernel
theorem dX7_lead_40 : decode cX7_lead 40 = .ok (.goto 7, 3) := by decide +kernel
theorem dX7_lead_43 : decode cX7_lead 43 = .ok (.bipush 17, 2) := by decide +kernel
theorem dX7_lead_45 : decode cX7_lead 45 = .ok (.iload_n 1, 1) := by decide +kernel
theorem dX7_lead_46 : decode cX7_lead 46 = .ok (.iadd, 1) := by decide +kernel
theorem dX7_lead_47 : decode cX7_lead 47 = .ok (.istore 4, 2) := by decide +kernel
theorem dX7_lead_49 : decode cX7_lead 49 = .ok (.aload_n 0, 1) := by decide +kernel
theorem dX7_lead_50 : decode cX7_lead 50 = .ok (.getfield 25, 3) := by decide +kernel
theorem dX7_lead_53 : decode cX7_lead 53 = .ok (.iload 4, 2) := by decide +kernel
theorem dX7_lead_55 : decode cX7_lead 55 = .ok (.iaload, 1) := by decide +kernel
theorem dX7_lead_56 : decode cX7_lead 56 = .ok (.istore 5, 2) := by decide +kernel
theorem dX7_lead_58 : decode cX7_lead 58 = .ok (.aload_n 0, 1) := by decide +kernel
theorem dX7_lead_59 : decode cX7_lead 59 = .ok (.invokevirtual 178, 3) := by decide +kernel
theorem dX7_lead_62 : decode cX7_lead 62 = .ok (.aload_n 0, 1) := by decide +kernel
theorem dX7_lead_63 : decode cX7_lead 63 = .ok (.getfield 25, 3) := by decide +kernel
theorem dX7_lead_66 : decode cX7_lead 66 = .ok (.iload 4, 2) := by decide +kernel
theorem dX7_lead_68 : decode cX7_lead 68 = .ok (.iload_n 3, 1) := by decide +kernel
theorem dX7_lead_69 : decode cX7_lead 69 = .ok (.iastore, 1) := by decide +kernel
theorem dX7_lead_70 : decode cX7_lead 70 = .ok (.iload 5, 2) := by decide +kernel
theorem dX7_lead_72 : decode cX7_lead 72 = .ok (.ireturn, 1) := by decide +kernel
theorem dX7_comes_0 : decode cX7_comes 0 = .ok (.aload_n 0, 1) := by decide +kernel
theorem dX7_comes_1 : decode cX7_comes 1 = .ok (.bipush 49, 2) := by decide +kernel
theorem dX7_comes_3 : decode cX7_comes 3 = .ok (.iload_n 1, 1) := by decide +kernel
theorem dX7_comes_4 : decode cX7_comes 4 = .ok (.iadd, 1) := by decide +kernel
theorem dX7_comes_5 : decode cX7_comes 5 = .ok (.bipush 10, 2) := by decide +kernel
theorem dX7_comes_7 : decode cX7_comes 7 = .ok (.iastore, 1) := by decide +kernel
theorem dX7_comes_8 : decode cX7_comes 8 = .ok (.aload_n 0, 1) := by decide +kernel
theorem dX7_comes_9 : decode cX7_comes 9 = .ok (.bipush 55, 2) := by decide +kernel
theorem dX7_comes_11 : decode cX7_comes 11 = .ok (.iload_n 1, 1) := by decide +kernel
theorem dX7_comes_12 : decode cX7_comes 12 = .ok (.iadd, 1) := by decide +kernel
theorem dX7_comes_13 : decode cX7_comes 13 = .ok (.iload_n 2, 1) := by decide +kernel
theorem dX7_comes_14 : decode cX7_comes 14 = .ok (.iastore, 1) := by decide +kernel
theorem dX7_comes_15 : decode cX7_comes 15 = .ok (.aload_n 0, 1) := by decide +kernel
theorem dX7_comes_16 : decode cX7_comes 16 = .ok (.bipush 61, 2) := by decide +kernel
theorem dX7_comes_18 : decode cX7_comes 18 = .ok (.iload_n 1, 1) := by decide +kernel
theorem dX7_comes_19 : decode cX7_comes 19 = .ok (.iadd, 1) := by decide +kernel
theorem dX7_comes_20 : decode cX7_comes 20 = .ok (.aload_n 0, 1) := by decide +kernel
theorem dX7_comes_21 : decode cX7_comes 21 = .ok (.iconst 0, 1) := by decide +kernel
theorem dX7_comes_22 : decode cX7_comes 22 = .ok (.iaload, 1) := by decide +kernel
theorem dX7_comes_23 : decode cX7_comes 23 = .ok (.iastore, 1) := by decide +kernel
theorem dX7_comes_24 : decode cX7_comes 24 = .ok (.return_, 1) := by decide +kernel
theorem dX7_again_0 : decode cX7_again 0 = .ok (.aload_n 0, 1) := by decide +kernel
theorem dX7_again_1 : decode cX7_again 1 = .ok (.iload_n 1, 1) := by decide +kernel
theorem dX7_again_2 : decode cX7_again 2 = .ok (.invokevirtual 192, 3) := by decide +kernel
theorem dX7_again_5 : decode cX7_again 5 = .ok (.ifCond .eq 13, 3) := by decide +kernel
theorem dX7_again_8 : decode cX7_again 8 = .ok (.iload_n 2, 1) := by decide +kernel
theorem dX7_again_9 : decode cX7_again 9 = .ok (.iconst 1, 1) := by decide +kernel
theorem dX7_again_10 : decode cX7_again 10 = .ok (.bipush 9, 2) := by decide +kernel
theorem dX7_again_12 : decode cX7_again 12 = .ok (.invokestatic 70, 3) := by decide +kernel
theorem dX7_again_15 : decode cX7_again 15 = .ok (.ifCond .ne 6, 3) := by decide +kernel
theorem dX7_again_18 : decode cX7_again 18 = .ok (.ldc 84, 2) := by decide +kernel
theorem dX7_again_20 : decode cX7_again 20 = .ok (.ireturn, 1) := by decide +kernel
theorem dX7_again_21 : decode cX7_again 21 = .ok (.aload_n 0, 1) := by decide +kernel
theorem dX7_again_22 : decode cX7_again 22 = .ok (.aload_n 0, 1) := by decide +kernel
theorem dX7_again_23 : decode cX7_again 23 = .ok (.getfield 25, 3) := by decide +kernel
theorem dX7_again_26 : decode cX7_again 26 = .ok (.iload_n 1, 1) := by decide +kernel
theorem dX7_again_27 : decode cX7_again 27 = .ok (.invokevirtual 195, 3) := by decide +kernel
theorem dX7_again_30 : decode cX7_again 30 = .ok (.ifCond .ne 6, 3) := by decide +kernel
theorem dX7_again_33 : decode cX7_again 33 = .ok (.ldc 173, 2) := by decide +kernel
theorem dX7_again_35 : decode cX7_again 35 = .ok (.ireturn, 1) := by decide +kernel
theorem dX7_again_36 : decode cX7_again 36 = .ok (.aload_n 0, 1) := by decide +kernel
theorem dX7_again_37 : decode cX7_again 37 = .ok (.invokevirtual 178, 3) := by decide +kernel
theorem dX7_again_40 : decode cX7_again 40 = .ok (.aload_n 0, 1) := by decide +kernel
theorem dX7_again_41 : decode cX7_again 41 = .ok (.getfield 25, 3) := by decide +kernel
theorem dX7_again_44 : decode cX7_again 44 = .ok (.iload_n 1, 1) := by decide +kernel
theorem dX7_again_45 : decode cX7_again 45 = .ok (.iload_n 2, 1) := by decide +kernel
theorem dX7_again_46 : decode cX7_again 46 = .ok (.invokestatic 199, 3) := by decide +kernel
theorem dX7_again_49 : decode cX7_again 49 = .ok (.aload_n 0, 1) := by decide +kernel
theorem dX7_again_50 : decode cX7_again 50 = .ok (.aload_n 0, 1) := by decide +kernel
theorem dX7_again_51 : decode cX7_again 51 = .ok (.getfield 25, 3) := by decide +kernel
theorem dX7_again_54 : decode cX7_again 54 = .ok (.bipush 10, 2) := by decide +kernel
theorem dX7_again_56 : decode cX7_again 56 = .ok (.bipush 10, 2) := by decide +kernel
theorem dX7_again_58 : decode cX7_again 58 = .ok (.invokevirtual 185, 3) := by decide +kernel
theorem dX7_again_61 : decode cX7_again 61 = .ok (.ireturn, 1) := by decide +kernel
theorem dX7_marble_0 : decode cX7_marble 0 = .ok (.aload_n 0, 1) := by decide +kernel
theorem dX7_marble_1 : decode cX7_marble 1 = .ok (.iload_n 1, 1) := by decide +kernel
theorem dX7_marble_2 : decode cX7_marble 2 = .ok (.invokevirtual 192, 3) := by decide +kernel
theorem dX7_marble_5 : decode cX7_marble 5 = .ok (.ifCond .eq 12, 3) := by decide +kernel
theorem dX7_marble_8 : decode cX7_marble 8 = .ok (.iload_n 2, 1) := by decide +kernel
theorem dX7_marble_9 : decode cX7_marble 9 = .ok (.iconst 0, 1) := by decide +kernel
theorem dX7_marble_10 : decode cX7_marble 10 = .ok (.iconst 2, 1) := by decide +kernel
theorem dX7_marble_11 : decode cX7_marble 11 = .ok (.invokestatic 70, 3) := by decide +kernel
theorem dX7_marble_14 : decode cX7_marble 14 = .ok (.ifCond .ne 6, 3) := by decide +kernel
theorem dX7_marble_17 : decode cX7_marble 17 = .ok (.ldc 84, 2) := by decide +kernel
theorem dX7_marble_19 : decode cX7_marble 19 = .ok (.ireturn, 1) := by decide +kernel
theorem dX7_marble_20 : decode cX7_marble 20 = .ok (.aload_n 0, 1) := by decide +kernel
theorem dX7_marble_21 : decode cX7_marble 21 = .ok (.getfield 25, 3) := by decide +kernel
theorem dX7_marble_24 : decode cX7_marble 24 = .ok (.iload_n 2, 1) := by decide +kernel
theorem dX7_marble_25 : decode cX7_marble 25 = .ok (.ifCond .ne 10, 3) := by decide +kernel
theorem dX7_marble_28 : decode cX7_marble 28 = .ok (.bipush 55, 2) := by decide +kernel
theorem dX7_marble_30 : decode cX7_marble 30 = .ok (.iload_n 1, 1) := by decide +kernel
theorem dX7_marble_31 : decode cX7_marble 31 = .ok (.iadd, 1) := by decide +kernel
theorem dX7_marble_32 : decode cX7_marble 32 = .ok (.goto 19, 3) := by decide +kernel
theorem dX7_marble_35 : decode cX7_marble 35 = .ok (.iload_n 2, 1) := by decide +kernel
theorem dX7_marble_36 : decode cX7_marble 36 = .ok (.iconst 1, 1) := by decide +kernel
theorem dX7_marble_37 : decode cX7_marble 37 = .ok (.if_icmp .ne 10, 3) := by decide +kernel
theorem dX7_marble_40 : decode cX7_marble 40 = .ok (.bipush 61, 2) := by decide +kernel
theorem dX7_marble_42 : decode cX7_marble 42 = .ok (.iload_n 1, 1) := by decide +kernel
theorem dX7_marble_43 : decode cX7_marble 43 = .ok (.iadd, 1) := by decide +kernel
theorem dX7_marble_44 : decode cX7_marble 44 = .ok (.goto 7, 3) := by decide +kernel
theorem dX7_marble_47 : decode cX7_marble 47 = .ok (.bipush 49, 2) := by decide +kernel
theorem dX7_marble_49 : decode cX7_marble 49 = .ok (.iload_n 1, 1) := by decide +kernel
theorem dX7_marble_50 : decode cX7_marble 50 = .ok (.iadd, 1) := by decide +kernel
theorem dX7_marble_51 : decode cX7_marble 51 = .ok (.iaload, 1) := by decide +kernel
theorem dX7_marble_52 : decode cX7_marble 52 = .ok (.ireturn, 1) := by decide +kernel
theorem dX7_piece_0 : decode cX7_piece 0 = .ok (.aload_n 0, 1) := by decide +kernel
theorem dX7_piece_1 : decode cX7_piece 1 = .ok (.iload_n 1, 1) := by decide +kernel
theorem dX7_piece_2 : decode cX7_piece 2 = .ok (.invokevirtual 189, 3) := by decide +kernel
theorem dX7_piece_5 : decode cX7_piece 5 = .ok (.ifCond .ne 6, 3) := by decide +kernel
theorem dX7_piece_8 : decode cX7_piece 8 = .ok (.ldc 84, 2) := by decide +kernel
theorem dX7_piece_10 : decode cX7_piece 10 = .ok (.ireturn, 1) := by decide +kernel
theorem dX7_piece_11 : decode cX7_piece 11 = .ok (.iload_n 2, 1) := by decide +kernel
theorem dX7_piece_12 : decode cX7_piece 12 = .ok (.tableswitch 114 0 6 #[44, 53, 63, 73, 83, 93, 103], 44) := by decide +kernel
theorem dX7_piece_56 : decode cX7_piece 56 = .ok (.aload_n 0, 1) := by decide +kernel
theorem dX7_piece_57 : decode cX7_piece 57 = .ok (.getfield 25, 3) := by decide +kernel
theorem dX7_piece_60 : decode cX7_piece 60 = .ok (.iconst 1, 1) := by decide +kernel
theorem dX7_piece_61 : decode cX7_piece 61 = .ok (.iload_n 1, 1) := by decide +kernel
theorem dX7_piece_62 : decode cX7_piece 62 = .ok (.iadd, 1) := by decide +kernel
theorem dX7_piece_63 : decode cX7_piece 63 = .ok (.iaload, 1) := by decide +kernel
theorem dX7_piece_64 : decode cX7_piece 64 = .ok (.ireturn, 1) := by decide +kernel
theorem dX7_piece_65 : decode cX7_piece 65 = .ok (.aload_n 0, 1) := by decide +kernel
theorem dX7_piece_66 : decode cX7_piece 66 = .ok (.getfield 25, 3) := by decide +kernel
theorem dX7_piece_69 : decode cX7_piece 69 = .ok (.bipush 9, 2) := by decide +kernel
theorem dX7_piece_71 : decode cX7_piece 71 = .ok (.iload_n 1, 1) := by decide +kernel
theorem dX7_piece_72 : decode cX7_piece 72 = .ok (.iadd, 1) := by decide +kernel
theorem dX7_piece_73 : decode cX7_piece 73 = .ok (.iaload, 1) := by decide +kernel
theorem dX7_piece_74 : decode cX7_piece 74 = .ok (.ireturn, 1) := by decide +kernel
theorem dX7_piece_75 : decode cX7_piece 75 = .ok (.aload_n 0, 1) := by decide +kernel
theorem dX7_piece_76 : decode cX7_piece 76 = .ok (.getfield 25, 3) := by decide +kernel
theorem dX7_piece_79 : decode cX7_piece 79 = .ok (.bipush 17, 2) := by decide +kernel
theorem dX7_piece_81 : decode cX7_piece 81 = .ok (.iload_n 1, 1) := by decide +kernel
theorem dX7_piece_82 : decode cX7_piece 82 = .ok (.iadd, 1) := by decide +kernel
theorem dX7_piece_83 : decode cX7_piece 83 = .ok (.iaload, 1) := by decide +kernel
theorem dX7_piece_84 : decode cX7_piece 84 = .ok (.ireturn, 1) := by decide +kernel
theorem dX7_piece_85 : decode cX7_piece 85 = .ok (.aload_n 0, 1) := by decide +kernel
theorem dX7_piece_86 : decode cX7_piece 86 = .ok (.getfield 25, 3) := by decide +kernel
theorem dX7_piece_89 : decode cX7_piece 89 = .ok (.bipush 25, 2) := by decide +kernel
theorem dX7_piece_91 : decode cX7_piece 91 = .ok (.iload_n 1, 1) := by decide +kernel
theorem dX7_piece_92 : decode cX7_piece 92 = .ok (.iadd, 1) := by decide +kernel
theorem dX7_piece_93 : decode cX7_piece 93 = .ok (.iaload, 1) := by decide +kernel
theorem dX7_piece_94 : decode cX7_piece 94 = .ok (.ireturn, 1) := by decide +kernel
theorem dX7_piece_95 : decode cX7_piece 95 = .ok (.aload_n 0, 1) := by decide +kernel
theorem dX7_piece_96 : decode cX7_piece 96 = .ok (.getfield 25, 3) := by decide +kernel
theorem dX7_piece_99 : decode cX7_piece 99 = .ok (.bipush 33, 2) := by decide +kernel
theorem dX7_piece_101 : decode cX7_piece 101 = .ok (.iload_n 1, 1) := by decide +kernel
theorem dX7_piece_102 : decode cX7_piece 102 = .ok (.iadd, 1) := by decide +kernel
theorem dX7_piece_103 : decode cX7_piece 103 = .ok (.iaload, 1) := by decide +kernel
theorem dX7_piece_104 : decode cX7_piece 104 = .ok (.ireturn, 1) := by decide +kernel
theorem dX7_piece_105 : decode cX7_piece 105 = .ok (.aload_n 0, 1) := by decide +kernel
theorem dX7_piece_106 : decode cX7_piece 106 = .ok (.getfield 25, 3) := by decide +kernel
theorem dX7_piece_109 : decode cX7_piece 109 = .ok (.bipush 41, 2) := by decide +kernel
theorem dX7_piece_111 : decode cX7_piece 111 = .ok (.iload_n 1, 1) := by decide +kernel
theorem dX7_piece_112 : decode cX7_piece 112 = .ok (.iadd, 1) := by decide +kernel
theorem dX7_piece_113 : decode cX7_piece 113 = .ok (.iaload, 1) := by decide +kernel
theorem dX7_piece_114 : decode cX7_piece 114 = .ok (.ireturn, 1) := by decide +kernel
theorem dX7_piece_115 : decode cX7_piece 115 = .ok (.aload_n 0, 1) := by decide +kernel
theorem dX7_piece_116 : decode cX7_piece 116 = .ok (.aload_n 0, 1) := by decide +kernel
theorem dX7_piece_117 : decode cX7_piece 117 = .ok (.getfield 25, 3) := by decide +kernel
theorem dX7_piece_120 : decode cX7_piece 120 = .ok (.iload_n 1, 1) := by decide +kernel
theorem dX7_piece_121 : decode cX7_piece 121 = .ok (.iload_n 1, 1) := by decide +kernel
theorem dX7_piece_122 : decode cX7_piece 122 = .ok (.invokevirtual 185, 3) := by decide +kernel
theorem dX7_piece_125 : decode cX7_piece 125 = .ok (.ireturn, 1) := by decide +kernel
theorem dX7_piece_126 : decode cX7_piece 126 = .ok (.ldc 84, 2) := by decide +kernel
theorem dX7_piece_128 : decode cX7_piece 128 = .ok (.ireturn, 1) := by decide +kernel
theorem dX7_stand_0 : decode cX7_stand 0 = .ok (.aload_n 0, 1) := by decide +kernel
theorem dX7_stand_1 : decode cX7_stand 1 = .ok (.invokevirtual 174, 3) := by decide +kernel
theorem dX7_stand_4 : decode cX7_stand 4 = .ok (.ifCond .eq 6, 3) := by decide +kernel
theorem dX7_stand_7 : decode cX7_stand 7 = .ok (.ldc 173, 2) := by decide +kernel
theorem dX7_stand_9 : decode cX7_stand 9 = .ok (.ireturn, 1) := by decide +kernel
theorem dX7_stand_10 : decode cX7_stand 10 = .ok (.iload_n 1, 1) := by decide +kernel
theorem dX7_stand_11 : decode cX7_stand 11 = .ok (.tableswitch 106 0 5 #[37, 42, 55, 67, 80, 93], 37) := by decide +kernel
theorem dX7_stand_48 : decode cX7_stand 48 = .ok (.aload_n 0, 1) := by decide +kernel
theorem dX7_stand_49 : decode cX7_stand 49 = .ok (.getfield 152, 3) := by decide +kernel
theorem dX7_stand_52 : decode cX7_stand 52 = .ok (.ireturn, 1) := by decide +kernel
theorem dX7_stand_53 : decode cX7_stand 53 = .ok (.aload_n 0, 1) := by decide +kernel
theorem dX7_stand_54 : decode cX7_stand 54 = .ok (.aload_n 0, 1) := by decide +kernel
theorem dX7_stand_55 : decode cX7_stand 55 = .ok (.getfield 25, 3) := by decide +kernel
theorem dX7_stand_58 : decode cX7_stand 58 = .ok (.bipush 10, 2) := by decide +kernel
theorem dX7_stand_60 : decode cX7_stand 60 = .ok (.bipush 10, 2) := by decide +kernel
theorem dX7_stand_62 : decode cX7_stand 62 = .ok (.invokevirtual 185, 3) := by decide +kernel
theorem dX7_stand_65 : decode cX7_stand 65 = .ok (.ireturn, 1) := by decide +kernel
theorem dX7_stand_66 : decode cX7_stand 66 = .ok (.aload_n 0, 1) := by decide +kernel
theorem dX7_stand_67 : decode cX7_stand 67 = .ok (.aload_n 0, 1) := by decide +kernel
theorem dX7_stand_68 : decode cX7_stand 68 = .ok (.getfield 25, 3) := by decide +kernel
theorem dX7_stand_71 : decode cX7_stand 71 = .ok (.iconst 0, 1) := by decide +kernel
theorem dX7_stand_72 : decode cX7_stand 72 = .ok (.bipush 7, 2) := by decide +kernel
theorem dX7_stand_74 : decode cX7_stand 74 = .ok (.invokevirtual 185, 3) := by decide +kernel
theorem dX7_stand_77 : decode cX7_stand 77 = .ok (.ireturn, 1) := by decide +kernel
theorem dX7_stand_78 : decode cX7_stand 78 = .ok (.aload_n 0, 1) := by decide +kernel
theorem dX7_stand_79 : decode cX7_stand 79 = .ok (.aload_n 0, 1) := by decide +kernel
theorem dX7_stand_80 : decode cX7_stand 80 = .ok (.getfield 25, 3) := by decide +kernel
theorem dX7_stand_83 : decode cX7_stand 83 = .ok (.bipush 20, 2) := by decide +kernel
theorem dX7_stand_85 : decode cX7_stand 85 = .ok (.bipush 28, 2) := by decide +kernel
theorem dX7_stand_87 : decode cX7_stand 87 = .ok (.invokevirtual 185, 3) := by decide +kernel
theorem dX7_stand_90 : decode cX7_stand 90 = .ok (.ireturn, 1) := by decide +kernel
theorem dX7_stand_91 : decode cX7_stand 91 = .ok (.aload_n 0, 1) := by decide +kernel
theorem dX7_stand_92 : decode cX7_stand 92 = .ok (.aload_n 0, 1) := by decide +kernel
theorem dX7_stand_93 : decode cX7_stand 93 = .ok (.getfield 25, 3) := by decide +kernel
theorem dX7_stand_96 : decode cX7_stand 96 = .ok (.bipush 8, 2) := by decide +kernel
theorem dX7_stand_98 : decode cX7_stand 98 = .ok (.bipush 8, 2) := by decide +kernel
theorem dX7_stand_100 : decode cX7_stand 100 = .ok (.invokevirtual 185, 3) := by decide +kernel
theorem dX7_stand_103 : decode cX7_stand 103 = .ok (.ireturn, 1) := by decide +kernel
theorem dX7_stand_104 : decode cX7_stand 104 = .ok (.aload_n 0, 1) := by decide +kernel
theorem dX7_stand_105 : decode cX7_stand 105 = .ok (.aload_n 0, 1) := by decide +kernel
theorem dX7_stand_106 : decode cX7_stand 106 = .ok (.getfield 25, 3) := by decide +kernel
theorem dX7_stand_109 : decode cX7_stand 109 = .ok (.bipush 9, 2) := by decide +kernel
theorem dX7_stand_111 : decode cX7_stand 111 = .ok (.bipush 9, 2) := by decide +kernel
theorem dX7_stand_113 : decode cX7_stand 113 = .ok (.invokevirtual 185, 3) := by decide +kernel
theorem dX7_stand_116 : decode cX7_stand 116 = .ok (.ireturn, 1) := by decide +kernel
theorem dX7_stand_117 : decode cX7_stand 117 = .ok (.ldc 84, 2) := by decide +kernel
theorem dX7_stand_119 : decode cX7_stand 119 = .ok (.ireturn, 1) := by decide +kernel
theorem dX7_asItIs_0 : decode cX7_asItIs 0 = .ok (.aload_n 0, 1) := by decide +kernel
theorem dX7_asItIs_1 : decode cX7_asItIs 1 = .ok (.getfield 25, 3) := by decide +kernel
theorem dX7_asItIs_4 : decode cX7_asItIs 4 = .ok (.iconst 0, 1) := by decide +kernel
theorem dX7_asItIs_5 : decode cX7_asItIs 5 = .ok (.aload_n 0, 1) := by decide +kernel
theorem dX7_asItIs_6 : decode cX7_asItIs 6 = .ok (.getfield 41, 3) := by decide +kernel
theorem dX7_asItIs_9 : decode cX7_asItIs 9 = .ok (.iconst 0, 1) := by decide +kernel
theorem dX7_asItIs_10 : decode cX7_asItIs 10 = .ok (.bipush 67, 2) := by decide +kernel
theorem dX7_asItIs_12 : decode cX7_asItIs 12 = .ok (.invokestatic 155, 3) := by decide +kernel
theorem dX7_asItIs_15 : decode cX7_asItIs 15 = .ok (.return_, 1) := by decide +kernel
theorem dX7_goes_0 : decode cX7_goes 0 = .ok (.iconst 0, 1) := by decide +kernel
theorem dX7_goes_1 : decode cX7_goes 1 = .ok (.istore_n 2, 1) := by decide +kernel
theorem dX7_goes_2 : decode cX7_goes 2 = .ok (.iload_n 2, 1) := by decide +kernel
theorem dX7_goes_3 : decode cX7_goes 3 = .ok (.iload_n 1, 1) := by decide +kernel
theorem dX7_goes_4 : decode cX7_goes 4 = .ok (.if_icmp .ge 17, 3) := by decide +kernel
theorem dX7_goes_7 : decode cX7_goes 7 = .ok (.aload_n 0, 1) := by decide +kernel
theorem dX7_goes_8 : decode cX7_goes 8 = .ok (.aload_n 0, 1) := by decide +kernel
theorem dX7_goes_9 : decode cX7_goes 9 = .ok (.getfield 41, 3) := by decide +kernel
theorem dX7_goes_12 : decode cX7_goes 12 = .ok (.invokevirtual 181, 3) := by decide +kernel
theorem dX7_goes_15 : decode cX7_goes 15 = .ok (.iinc 2 1, 3) := by decide +kernel
theorem dX7_goes_18 : decode cX7_goes 18 = .ok (.goto (-16), 3) := by decide +kernel
theorem dX7_goes_21 : decode cX7_goes 21 = .ok (.return_, 1) := by decide +kernel
theorem dX7_rightOf_0 : decode cX7_rightOf 0 = .ok (.aload_n 0, 1) := by decide +kernel
theorem dX7_rightOf_1 : decode cX7_rightOf 1 = .ok (.aload_n 0, 1) := by decide +kernel
theorem dX7_rightOf_2 : decode cX7_rightOf 2 = .ok (.getfield 41, 3) := by decide +kernel
theorem dX7_rightOf_5 : decode cX7_rightOf 5 = .ok (.bipush 9, 2) := by decide +kernel
theorem dX7_rightOf_7 : decode cX7_rightOf 7 = .ok (.bipush 9, 2) := by decide +kernel
theorem dX7_rightOf_9 : decode cX7_rightOf 9 = .ok (.invokevirtual 185, 3) := by decide +kernel
theorem dX7_rightOf_12 : decode cX7_rightOf 12 = .ok (.ireturn, 1) := by decide +kernel
theorem dX7_leftOf_0 : decode cX7_leftOf 0 = .ok (.aload_n 0, 1) := by decide +kernel
theorem dX7_leftOf_1 : decode cX7_leftOf 1 = .ok (.aload_n 0, 1) := by decide +kernel
theorem dX7_leftOf_2 : decode cX7_leftOf 2 = .ok (.getfield 41, 3) := by decide +kernel
theorem dX7_leftOf_5 : decode cX7_leftOf 5 = .ok (.bipush 8, 2) := by decide +kernel
theorem dX7_leftOf_7 : decode cX7_leftOf 7 = .ok (.bipush 8, 2) := by decide +kernel
theorem dX7_leftOf_9 : decode cX7_leftOf 9 = .ok (.invokevirtual 185, 3) := by decide +kernel
theorem dX7_leftOf_12 : decode cX7_leftOf 12 = .ok (.ireturn, 1) := by decide +kernel
theorem dX7_ahead_0 : decode cX7_ahead 0 = .ok (.aload_n 0, 1) := by decide +kernel
theorem dX7_ahead_1 : decode cX7_ahead 1 = .ok (.iload_n 1, 1) := by decide +kernel
theorem dX7_ahead_2 : decode cX7_ahead 2 = .ok (.invokevirtual 192, 3) := by decide +kernel
theorem dX7_ahead_5 : decode cX7_ahead 5 = .ok (.ifCond .eq 13, 3) := by decide +kernel
theorem dX7_ahead_8 : decode cX7_ahead 8 = .ok (.iload_n 2, 1) := by decide +kernel
theorem dX7_ahead_9 : decode cX7_ahead 9 = .ok (.iconst 0, 1) := by decide +kernel
theorem dX7_ahead_10 : decode cX7_ahead 10 = .ok (.bipush 60, 2) := by decide +kernel
theorem dX7_ahead_12 : decode cX7_ahead 12 = .ok (.invokestatic 70, 3) := by decide +kernel
theorem dX7_ahead_15 : decode cX7_ahead 15 = .ok (.ifCond .ne 6, 3) := by decide +kernel
theorem dX7_ahead_18 : decode cX7_ahead 18 = .ok (.ldc 84, 2) := by decide +kernel
theorem dX7_ahead_20 : decode cX7_ahead 20 = .ok (.ireturn, 1) := by decide +kernel
theorem dX7_ahead_21 : decode cX7_ahead 21 = .ok (.aload_n 0, 1) := by decide +kernel
theorem dX7_ahead_22 : decode cX7_ahead 22 = .ok (.invokevirtual 202, 3) := by decide +kernel
theorem dX7_ahead_25 : decode cX7_ahead 25 = .ok (.aload_n 0, 1) := by decide +kernel
theorem dX7_ahead_26 : decode cX7_ahead 26 = .ok (.iload_n 2, 1) := by decide +kernel
theorem dX7_ahead_27 : decode cX7_ahead 27 = .ok (.invokevirtual 205, 3) := by decide +kernel
theorem dX7_ahead_30 : decode cX7_ahead 30 = .ok (.aload_n 0, 1) := by decide +kernel
theorem dX7_ahead_31 : decode cX7_ahead 31 = .ok (.getfield 41, 3) := by decide +kernel
theorem dX7_ahead_34 : decode cX7_ahead 34 = .ok (.bipush 49, 2) := by decide +kernel
theorem dX7_ahead_36 : decode cX7_ahead 36 = .ok (.iload_n 1, 1) := by decide +kernel
theorem dX7_ahead_37 : decode cX7_ahead 37 = .ok (.iadd, 1) := by decide +kernel
theorem dX7_ahead_38 : decode cX7_ahead 38 = .ok (.iaload, 1) := by decide +kernel
theorem dX7_ahead_39 : decode cX7_ahead 39 = .ok (.ireturn, 1) := by decide +kernel
theorem dX7_stands_0 : decode cX7_stands 0 = .ok (.aload_n 0, 1) := by decide +kernel
theorem dX7_stands_1 : decode cX7_stands 1 = .ok (.iload_n 1, 1) := by decide +kernel
theorem dX7_stands_2 : decode cX7_stands 2 = .ok (.invokevirtual 189, 3) := by decide +kernel
theorem dX7_stands_5 : decode cX7_stands 5 = .ok (.ifCond .eq 22, 3) := by decide +kernel
theorem dX7_stands_8 : decode cX7_stands 8 = .ok (.iload_n 2, 1) := by decide +kernel
theorem dX7_stands_9 : decode cX7_stands 9 = .ok (.iconst 0, 1) := by decide +kernel
theorem dX7_stands_10 : decode cX7_stands 10 = .ok (.bipush 60, 2) := by decide +kernel
theorem dX7_stands_12 : decode cX7_stands 12 = .ok (.invokestatic 70, 3) := by decide +kernel
theorem dX7_stands_15 : decode cX7_stands 15 = .ok (.ifCond .eq 12, 3) := by decide +kernel
theorem dX7_stands_18 : decode cX7_stands 18 = .ok (.iload_n 3, 1) := by decide +kernel
theorem dX7_stands_19 : decode cX7_stands 19 = .ok (.iconst 0, 1) := by decide +kernel
theorem dX7_stands_20 : decode cX7_stands 20 = .ok (.iconst 3, 1) := by decide +kernel
theorem dX7_stands_21 : decode cX7_stands 21 = .ok (.invokestatic 70, 3) := by decide +kernel
theorem dX7_stands_24 : decode cX7_stands 24 = .ok (.ifCond .ne 6, 3) := by decide +kernel
theorem dX7_stands_27 : decode cX7_stands 27 = .ok (.ldc 84, 2) := by decide +kernel
theorem dX7_stands_29 : decode cX7_stands 29 = .ok (.ireturn, 1) := by decide +kernel
theorem dX7_stands_30 : decode cX7_stands 30 = .ok (.aload_n 0, 1) := by decide +kernel
theorem dX7_stands_31 : decode cX7_stands 31 = .ok (.invokevirtual 202, 3) := by decide +kernel
theorem dX7_stands_34 : decode cX7_stands 34 = .ok (.aload_n 0, 1) := by decide +kernel
theorem dX7_stands_35 : decode cX7_stands 35 = .ok (.iload_n 2, 1) := by decide +kernel
theorem dX7_stands_36 : decode cX7_stands 36 = .ok (.invokevirtual 205, 3) := by decide +kernel
theorem dX7_stands_39 : decode cX7_stands 39 = .ok (.aload_n 0, 1) := by decide +kernel
theorem dX7_stands_40 : decode cX7_stands 40 = .ok (.getfield 41, 3) := by decide +kernel
theorem dX7_stands_43 : decode cX7_stands 43 = .ok (.iload_n 3, 1) := by decide +kernel
theorem dX7_stands_44 : decode cX7_stands 44 = .ok (.ifCond .ne 9, 3) := by decide +kernel
theorem dX7_stands_47 : decode cX7_stands 47 = .ok (.iconst 1, 1) := by decide +kernel
theorem dX7_stands_48 : decode cX7_stands 48 = .ok (.iload_n 1, 1) := by decide +kernel
theorem dX7_stands_49 : decode cX7_stands 49 = .ok (.iadd, 1) := by decide +kernel
theorem dX7_stands_50 : decode cX7_stands 50 = .ok (.goto 31, 3) := by decide +kernel
theorem dX7_stands_53 : decode cX7_stands 53 = .ok (.iload_n 3, 1) := by decide +kernel
theorem dX7_stands_54 : decode cX7_stands 54 = .ok (.iconst 1, 1) := by decide +kernel
theorem dX7_stands_55 : decode cX7_stands 55 = .ok (.if_icmp .ne 10, 3) := by decide +kernel
theorem dX7_stands_58 : decode cX7_stands 58 = .ok (.bipush 25, 2) := by decide +kernel
theorem dX7_stands_60 : decode cX7_stands 60 = .ok (.iload_n 1, 1) := by decide +kernel
theorem dX7_stands_61 : decode cX7_stands 61 = .ok (.iadd, 1) := by decide +kernel
theorem dX7_stands_62 : decode cX7_stands 62 = .ok (.goto 19, 3) := by decide +kernel
theorem dX7_stands_65 : decode cX7_stands 65 = .ok (.iload_n 3, 1) := by decide +kernel
theorem dX7_stands_66 : decode cX7_stands 66 = .ok (.iconst 2, 1) := by decide +kernel
theorem dX7_stands_67 : decode cX7_stands 67 = .ok (.if_icmp .ne 10, 3) := by decide +kernel
theorem dX7_stands_70 : decode cX7_stands 70 = .ok (.bipush 33, 2) := by decide +kernel
theorem dX7_stands_72 : decode cX7_stands 72 = .ok (.iload_n 1, 1) := by decide +kernel
theorem dX7_stands_73 : decode cX7_stands 73 = .ok (.iadd, 1) := by decide +kernel
theorem dX7_stands_74 : decode cX7_stands 74 = .ok (.goto 7, 3) := by decide +kernel
theorem dX7_stands_77 : decode cX7_stands 77 = .ok (.bipush 41, 2) := by decide +kernel
theorem dX7_stands_79 : decode cX7_stands 79 = .ok (.iload_n 1, 1) := by decide +kernel
theorem dX7_stands_80 : decode cX7_stands 80 = .ok (.iadd, 1) := by decide +kernel
theorem dX7_stands_81 : decode cX7_stands 81 = .ok (.iaload, 1) := by decide +kernel
theorem dX7_stands_82 : decode cX7_stands 82 = .ok (.ireturn, 1) := by decide +kernel
theorem dX7_trays_0 : decode cX7_trays 0 = .ok (.aload_n 0, 1) := by decide +kernel
theorem dX7_trays_1 : decode cX7_trays 1 = .ok (.invokevirtual 174, 3) := by decide +kernel
theorem dX7_trays_4 : decode cX7_trays 4 = .ok (.ifCond .eq 6, 3) := by decide +kernel
theorem dX7_trays_7 : decode cX7_trays 7 = .ok (.ldc 173, 2) := by decide +kernel
theorem dX7_trays_9 : decode cX7_trays 9 = .ok (.ireturn, 1) := by decide +kernel
theorem dX7_trays_10 : decode cX7_trays 10 = .ok (.iload_n 1, 1) := by decide +kernel
theorem dX7_trays_11 : decode cX7_trays 11 = .ok (.iconst 0, 1) := by decide +kernel
theorem dX7_trays_12 : decode cX7_trays 12 = .ok (.bipush 60, 2) := by decide +kernel
theorem dX7_trays_14 : decode cX7_trays 14 = .ok (.invokestatic 70, 3) := by decide +kernel
theorem dX7_trays_17 : decode cX7_trays 17 = .ok (.ifCond .eq 12, 3) := by decide +kernel
theorem dX7_trays_20 : decode cX7_trays 20 = .ok (.iload_n 2, 1) := by decide +kernel
theorem dX7_trays_21 : decode cX7_trays 21 = .ok (.iconst 0, 1) := by decide +kernel
theorem dX7_trays_22 : decode cX7_trays 22 = .ok (.iconst 1, 1) := by decide +kernel
theorem dX7_trays_23 : decode cX7_trays 23 = .ok (.invokestatic 70, 3) := by decide +kernel
theorem dX7_trays_26 : decode cX7_trays 26 = .ok (.ifCond .ne 6, 3) := by decide +kernel
theorem dX7_trays_29 : decode cX7_trays 29 = .ok (.ldc 84, 2) := by decide +kernel
theorem dX7_trays_31 : decode cX7_trays 31 = .ok (.ireturn, 1) := by decide +kernel
theorem dX7_trays_32 : decode cX7_trays 32 = .ok (.aload_n 0, 1) := by decide +kernel
theorem dX7_trays_33 : decode cX7_trays 33 = .ok (.invokevirtual 202, 3) := by decide +kernel
theorem dX7_trays_36 : decode cX7_trays 36 = .ok (.aload_n 0, 1) := by decide +kernel
theorem dX7_trays_37 : decode cX7_trays 37 = .ok (.iload_n 1, 1) := by decide +kernel
theorem dX7_trays_38 : decode cX7_trays 38 = .ok (.invokevirtual 205, 3) := by decide +kernel
theorem dX7_trays_41 : decode cX7_trays 41 = .ok (.iload_n 2, 1) := by decide +kernel
theorem dX7_trays_42 : decode cX7_trays 42 = .ok (.ifCond .ne 10, 3) := by decide +kernel
theorem dX7_trays_45 : decode cX7_trays 45 = .ok (.aload_n 0, 1) := by decide +kernel
theorem dX7_trays_46 : decode cX7_trays 46 = .ok (.invokevirtual 208, 3) := by decide +kernel
theorem dX7_trays_49 : decode cX7_trays 49 = .ok (.goto 7, 3) := by decide +kernel
theorem dX7_trays_52 : decode cX7_trays 52 = .ok (.aload_n 0, 1) := by decide +kernel
theorem dX7_trays_53 : decode cX7_trays 53 = .ok (.invokevirtual 211, 3) := by decide +kernel
theorem dX7_trays_56 : decode cX7_trays 56 = .ok (.ireturn, 1) := by decide +kernel
theorem dX7_when_0 : decode cX7_when 0 = .ok (.aload_n 0, 1) := by decide +kernel
theorem dX7_when_1 : decode cX7_when 1 = .ok (.iload_n 1, 1) := by decide +kernel
theorem dX7_when_2 : decode cX7_when 2 = .ok (.invokevirtual 192, 3) := by decide +kernel
theorem dX7_when_5 : decode cX7_when 5 = .ok (.ifCond .ne 6, 3) := by decide +kernel
theorem dX7_when_8 : decode cX7_when 8 = .ok (.ldc 84, 2) := by decide +kernel
theorem dX7_when_10 : decode cX7_when 10 = .ok (.ireturn, 1) := by decide +kernel
theorem dX7_when_11 : decode cX7_when 11 = .ok (.aload_n 0, 1) := by decide +kernel
theorem dX7_when_12 : decode cX7_when 12 = .ok (.invokevirtual 202, 3) := by decide +kernel
theorem dX7_when_15 : decode cX7_when 15 = .ok (.iconst 0, 1) := by decide +kernel
theorem dX7_when_16 : decode cX7_when 16 = .ok (.istore_n 2, 1) := by decide +kernel
theorem dX7_when_17 : decode cX7_when 17 = .ok (.iload_n 2, 1) := by decide +kernel
theorem dX7_when_18 : decode cX7_when 18 = .ok (.bipush 60, 2) := by decide +kernel
theorem dX7_when_20 : decode cX7_when 20 = .ok (.if_icmp .gt 28, 3) := by decide +kernel
theorem dX7_when_23 : decode cX7_when 23 = .ok (.aload_n 0, 1) := by decide +kernel
theorem dX7_when_24 : decode cX7_when 24 = .ok (.aload_n 0, 1) := by decide +kernel
theorem dX7_when_25 : decode cX7_when 25 = .ok (.getfield 41, 3) := by decide +kernel
theorem dX7_when_28 : decode cX7_when 28 = .ok (.iload_n 1, 1) := by decide +kernel
theorem dX7_when_29 : decode cX7_when 29 = .ok (.invokevirtual 195, 3) := by decide +kernel
theorem dX7_when_32 : decode cX7_when 32 = .ok (.ifCond .eq 5, 3) := by decide +kernel
theorem dX7_when_35 : decode cX7_when 35 = .ok (.iload_n 2, 1) := by decide +kernel
theorem dX7_when_36 : decode cX7_when 36 = .ok (.ireturn, 1) := by decide +kernel
theorem dX7_when_37 : decode cX7_when 37 = .ok (.aload_n 0, 1) := by decide +kernel
theorem dX7_when_38 : decode cX7_when 38 = .ok (.iconst 1, 1) := by decide +kernel
theorem dX7_when_39 : decode cX7_when 39 = .ok (.invokevirtual 205, 3) := by decide +kernel
theorem dX7_when_42 : decode cX7_when 42 = .ok (.iinc 2 1, 3) := by decide +kernel
theorem dX7_when_45 : decode cX7_when 45 = .ok (.goto (-28), 3) := by decide +kernel
theorem dX7_when_48 : decode cX7_when 48 = .ok (.ldc 135, 2) := by decide +kernel
theorem dX7_when_50 : decode cX7_when 50 = .ok (.ireturn, 1) := by decide +kernel
theorem dX7_rest_0 : decode cX7_rest 0 = .ok (.aload_n 0, 1) := by decide +kernel
theorem dX7_rest_1 : decode cX7_rest 1 = .ok (.invokevirtual 174, 3) := by decide +kernel
theorem dX7_rest_4 : decode cX7_rest 4 = .ok (.ifCond .eq 6, 3) := by decide +kernel
theorem dX7_rest_7 : decode cX7_rest 7 = .ok (.ldc 173, 2) := by decide +kernel
theorem dX7_rest_9 : decode cX7_rest 9 = .ok (.ireturn, 1) := by decide +kernel
theorem dX7_rest_10 : decode cX7_rest 10 = .ok (.aload_n 0, 1) := by decide +kernel
theorem dX7_rest_11 : decode cX7_rest 11 = .ok (.invokevirtual 202, 3) := by decide +kernel
theorem dX7_rest_14 : decode cX7_rest 14 = .ok (.iconst 0, 1) := by decide +kernel
theorem dX7_rest_15 : decode cX7_rest 15 = .ok (.istore_n 1, 1) := by decide +kernel
theorem dX7_rest_16 : decode cX7_rest 16 = .ok (.iload_n 1, 1) := by decide +kernel
theorem dX7_rest_17 : decode cX7_rest 17 = .ok (.bipush 60, 2) := by decide +kernel
theorem dX7_rest_19 : decode cX7_rest 19 = .ok (.if_icmp .gt 43, 3) := by decide +kernel
theorem dX7_rest_22 : decode cX7_rest 22 = .ok (.aload_n 0, 1) := by decide +kernel
theorem dX7_rest_23 : decode cX7_rest 23 = .ok (.aload_n 0, 1) := by decide +kernel
theorem dX7_rest_24 : decode cX7_rest 24 = .ok (.getfield 41, 3) := by decide +kernel
theorem dX7_rest_27 : decode cX7_rest 27 = .ok (.iconst 0, 1) := by decide +kernel
theorem dX7_rest_28 : decode cX7_rest 28 = .ok (.bipush 7, 2) := by decide +kernel
theorem dX7_rest_30 : decode cX7_rest 30 = .ok (.invokevirtual 185, 3) := by decide +kernel
theorem dX7_rest_33 : decode cX7_rest 33 = .ok (.aload_n 0, 1) := by decide +kernel
theorem dX7_rest_34 : decode cX7_rest 34 = .ok (.aload_n 0, 1) := by decide +kernel
theorem dX7_rest_35 : decode cX7_rest 35 = .ok (.getfield 41, 3) := by decide +kernel
theorem dX7_rest_38 : decode cX7_rest 38 = .ok (.bipush 10, 2) := by decide +kernel
theorem dX7_rest_40 : decode cX7_rest 40 = .ok (.bipush 10, 2) := by decide +kernel
theorem dX7_rest_42 : decode cX7_rest 42 = .ok (.invokevirtual 185, 3) := by decide +kernel
theorem dX7_rest_45 : decode cX7_rest 45 = .ok (.ior, 1) := by decide +kernel
theorem dX7_rest_46 : decode cX7_rest 46 = .ok (.ifCond .ne 5, 3) := by decide +kernel
theorem dX7_rest_49 : decode cX7_rest 49 = .ok (.iload_n 1, 1) := by decide +kernel
theorem dX7_rest_50 : decode cX7_rest 50 = .ok (.ireturn, 1) := by decide +kernel
theorem dX7_rest_51 : decode cX7_rest 51 = .ok (.aload_n 0, 1) := by decide +kernel
theorem dX7_rest_52 : decode cX7_rest 52 = .ok (.iconst 1, 1) := by decide +kernel
theorem dX7_rest_53 : decode cX7_rest 53 = .ok (.invokevirtual 205, 3) := by decide +kernel
theorem dX7_rest_56 : decode cX7_rest 56 = .ok (.iinc 1 1, 3) := by decide +kernel
theorem dX7_rest_59 : decode cX7_rest 59 = .ok (.goto (-43), 3) := by decide +kernel
theorem dX7_rest_62 : decode cX7_rest 62 = .ok (.ldc 135, 2) := by decide +kernel
theorem dX7_rest_64 : decode cX7_rest 64 = .ok (.ireturn, 1) := by decide +kernel
theorem dX7_tipsNow_0 : decode cX7_tipsNow 0 = .ok (.iconst 0, 1) := by decide +kernel
theorem dX7_tipsNow_1 : decode cX7_tipsNow 1 = .ok (.istore_n 2, 1) := by decide +kernel
theorem dX7_tipsNow_2 : decode cX7_tipsNow 2 = .ok (.iload_n 2, 1) := by decide +kernel
theorem dX7_tipsNow_3 : decode cX7_tipsNow 3 = .ok (.aload_n 0, 1) := by decide +kernel
theorem dX7_tipsNow_4 : decode cX7_tipsNow 4 = .ok (.getfield 77, 3) := by decide +kernel
theorem dX7_tipsNow_7 : decode cX7_tipsNow 7 = .ok (.if_icmp .ge 25, 3) := by decide +kernel
theorem dX7_tipsNow_10 : decode cX7_tipsNow 10 = .ok (.aload_n 0, 1) := by decide +kernel
theorem dX7_tipsNow_11 : decode cX7_tipsNow 11 = .ok (.getfield 41, 3) := by decide +kernel
theorem dX7_tipsNow_14 : decode cX7_tipsNow 14 = .ok (.iconst 1, 1) := by decide +kernel
theorem dX7_tipsNow_15 : decode cX7_tipsNow 15 = .ok (.iload_n 2, 1) := by decide +kernel
theorem dX7_tipsNow_16 : decode cX7_tipsNow 16 = .ok (.iadd, 1) := by decide +kernel
theorem dX7_tipsNow_17 : decode cX7_tipsNow 17 = .ok (.dup2, 1) := by decide +kernel
theorem dX7_tipsNow_18 : decode cX7_tipsNow 18 = .ok (.iaload, 1) := by decide +kernel
theorem dX7_tipsNow_19 : decode cX7_tipsNow 19 = .ok (.iload_n 1, 1) := by decide +kernel
theorem dX7_tipsNow_20 : decode cX7_tipsNow 20 = .ok (.iload_n 2, 1) := by decide +kernel
theorem dX7_tipsNow_21 : decode cX7_tipsNow 21 = .ok (.ishr, 1) := by decide +kernel
theorem dX7_tipsNow_22 : decode cX7_tipsNow 22 = .ok (.iconst 1, 1) := by decide +kernel
theorem dX7_tipsNow_23 : decode cX7_tipsNow 23 = .ok (.iand, 1) := by decide +kernel
theorem dX7_tipsNow_24 : decode cX7_tipsNow 24 = .ok (.ixor, 1) := by decide +kernel
theorem dX7_tipsNow_25 : decode cX7_tipsNow 25 = .ok (.iastore, 1) := by decide +kernel
theorem dX7_tipsNow_26 : decode cX7_tipsNow 26 = .ok (.iinc 2 1, 3) := by decide +kernel
theorem dX7_tipsNow_29 : decode cX7_tipsNow 29 = .ok (.goto (-27), 3) := by decide +kernel
theorem dX7_tipsNow_32 : decode cX7_tipsNow 32 = .ok (.return_, 1) := by decide +kernel
theorem dX7_tips_0 : decode cX7_tips 0 = .ok (.aload_n 0, 1) := by decide +kernel
theorem dX7_tips_1 : decode cX7_tips 1 = .ok (.invokevirtual 174, 3) := by decide +kernel
theorem dX7_tips_4 : decode cX7_tips 4 = .ok (.ifCond .eq 6, 3) := by decide +kernel
theorem dX7_tips_7 : decode cX7_tips 7 = .ok (.ldc 173, 2) := by decide +kernel
theorem dX7_tips_9 : decode cX7_tips 9 = .ok (.ireturn, 1) := by decide +kernel
theorem dX7_tips_10 : decode cX7_tips 10 = .ok (.iload_n 1, 1) := by decide +kernel
theorem dX7_tips_11 : decode cX7_tips 11 = .ok (.iconst 1, 1) := by decide +kernel
theorem dX7_tips_12 : decode cX7_tips 12 = .ok (.bipush 40, 2) := by decide +kernel
theorem dX7_tips_14 : decode cX7_tips 14 = .ok (.invokestatic 70, 3) := by decide +kernel
theorem dX7_tips_17 : decode cX7_tips 17 = .ok (.ifCond .eq 12, 3) := by decide +kernel
theorem dX7_tips_20 : decode cX7_tips 20 = .ok (.iload_n 2, 1) := by decide +kernel
theorem dX7_tips_21 : decode cX7_tips 21 = .ok (.iconst 0, 1) := by decide +kernel
theorem dX7_tips_22 : decode cX7_tips 22 = .ok (.iconst 1, 1) := by decide +kernel
theorem dX7_tips_23 : decode cX7_tips 23 = .ok (.invokestatic 70, 3) := by decide +kernel
theorem dX7_tips_26 : decode cX7_tips 26 = .ok (.ifCond .ne 6, 3) := by decide +kernel
theorem dX7_tips_29 : decode cX7_tips 29 = .ok (.ldc 84, 2) := by decide +kernel
theorem dX7_tips_31 : decode cX7_tips 31 = .ok (.ireturn, 1) := by decide +kernel
theorem dX7_tips_32 : decode cX7_tips 32 = .ok (.iconst 0, 1) := by decide +kernel
theorem dX7_tips_33 : decode cX7_tips 33 = .ok (.istore_n 3, 1) := by decide +kernel
theorem dX7_tips_34 : decode cX7_tips 34 = .ok (.iconst (-1), 1) := by decide +kernel
theorem dX7_tips_35 : decode cX7_tips 35 = .ok (.istore 4, 2) := by decide +kernel
theorem dX7_tips_37 : decode cX7_tips 37 = .ok (.iconst 0, 1) := by decide +kernel
theorem dX7_tips_38 : decode cX7_tips 38 = .ok (.istore 5, 2) := by decide +kernel
theorem dX7_tips_40 : decode cX7_tips 40 = .ok (.iload 5, 2) := by decide +kernel
theorem dX7_tips_42 : decode cX7_tips 42 = .ok (.iconst 1, 1) := by decide +kernel
theorem dX7_tips_43 : decode cX7_tips 43 = .ok (.aload_n 0, 1) := by decide +kernel
theorem dX7_tips_44 : decode cX7_tips 44 = .ok (.getfield 77, 3) := by decide +kernel
theorem dX7_tips_47 : decode cX7_tips 47 = .ok (.ishl, 1) := by decide +kernel
theorem dX7_tips_48 : decode cX7_tips 48 = .ok (.if_icmp .ge 66, 3) := by decide +kernel
theorem dX7_tips_51 : decode cX7_tips 51 = .ok (.aload_n 0, 1) := by decide +kernel
theorem dX7_tips_52 : decode cX7_tips 52 = .ok (.invokevirtual 202, 3) := by decide +kernel
theorem dX7_tips_55 : decode cX7_tips 55 = .ok (.aload_n 0, 1) := by decide +kernel
theorem dX7_tips_56 : decode cX7_tips 56 = .ok (.iload 5, 2) := by decide +kernel
theorem dX7_tips_58 : decode cX7_tips 58 = .ok (.invokevirtual 214, 3) := by decide +kernel
theorem dX7_tips_61 : decode cX7_tips 61 = .ok (.aload_n 0, 1) := by decide +kernel
theorem dX7_tips_62 : decode cX7_tips 62 = .ok (.iload_n 1, 1) := by decide +kernel
theorem dX7_tips_63 : decode cX7_tips 63 = .ok (.invokevirtual 205, 3) := by decide +kernel
theorem dX7_tips_66 : decode cX7_tips 66 = .ok (.aload_n 0, 1) := by decide +kernel
theorem dX7_tips_67 : decode cX7_tips 67 = .ok (.invokevirtual 211, 3) := by decide +kernel
theorem dX7_tips_70 : decode cX7_tips 70 = .ok (.invokestatic 217, 3) := by decide +kernel
theorem dX7_tips_73 : decode cX7_tips 73 = .ok (.istore 6, 2) := by decide +kernel
theorem dX7_tips_75 : decode cX7_tips 75 = .ok (.iload 6, 2) := by decide +kernel
theorem dX7_tips_77 : decode cX7_tips 77 = .ok (.iload 4, 2) := by decide +kernel
theorem dX7_tips_79 : decode cX7_tips 79 = .ok (.if_icmp .gt 22, 3) := by decide +kernel
theorem dX7_tips_82 : decode cX7_tips 82 = .ok (.iload 6, 2) := by decide +kernel
theorem dX7_tips_84 : decode cX7_tips 84 = .ok (.iload 4, 2) := by decide +kernel
theorem dX7_tips_86 : decode cX7_tips 86 = .ok (.if_icmp .ne 22, 3) := by decide +kernel
end
section
theorem dX7_tips_89 : decode cX7_tips 89 = .ok (.iload 5, 2) := by decide +kernel
theorem dX7_tips_91 : decode cX7_tips 91 = .ok (.invokestatic 217, 3) := by decide +kernel
theorem dX7_tips_94 : decode cX7_tips 94 = .ok (.iload_n 3, 1) := by decide +kernel
theorem dX7_tips_95 : decode cX7_tips 95 = .ok (.invokestatic 217, 3) := by decide +kernel
theorem dX7_tips_98 : decode cX7_tips 98 = .ok (.if_icmp .ge 10, 3) := by decide +kernel
theorem dX7_tips_101 : decode cX7_tips 101 = .ok (.iload 6, 2) := by decide +kernel
theorem dX7_tips_103 : decode cX7_tips 103 = .ok (.istore 4, 2) := by decide +kernel
theorem dX7_tips_105 : decode cX7_tips 105 = .ok (.iload 5, 2) := by decide +kernel
theorem dX7_tips_107 : decode cX7_tips 107 = .ok (.istore_n 3, 1) := by decide +kernel
theorem dX7_tips_108 : decode cX7_tips 108 = .ok (.iinc 5 1, 3) := by decide +kernel
theorem dX7_tips_111 : decode cX7_tips 111 = .ok (.goto (-71), 3) := by decide +kernel
theorem dX7_tips_114 : decode cX7_tips 114 = .ok (.iload_n 2, 1) := by decide +kernel
theorem dX7_tips_115 : decode cX7_tips 115 = .ok (.ifCond .ne 7, 3) := by decide +kernel
theorem dX7_tips_118 : decode cX7_tips 118 = .ok (.iload_n 3, 1) := by decide +kernel
theorem dX7_tips_119 : decode cX7_tips 119 = .ok (.goto 5, 3) := by decide +kernel
theorem dX7_tips_122 : decode cX7_tips 122 = .ok (.iload 4, 2) := by decide +kernel
theorem dX7_tips_124 : decode cX7_tips 124 = .ok (.ireturn, 1) := by decide +kernel
theorem dX7_byNumbers_0 : decode cX7_byNumbers 0 = .ok (.iconst 0, 1) := by decide +kernel
theorem dX7_byNumbers_1 : decode cX7_byNumbers 1 = .ok (.istore_n 1, 1) := by decide +kernel
theorem dX7_byNumbers_2 : decode cX7_byNumbers 2 = .ok (.iload_n 1, 1) := by decide +kernel
theorem dX7_byNumbers_3 : decode cX7_byNumbers 3 = .ok (.bipush 6, 2) := by decide +kernel
theorem dX7_byNumbers_5 : decode cX7_byNumbers 5 = .ok (.if_icmp .ge 16, 3) := by decide +kernel
theorem dX7_byNumbers_8 : decode cX7_byNumbers 8 = .ok (.aload_n 0, 1) := by decide +kernel
theorem dX7_byNumbers_9 : decode cX7_byNumbers 9 = .ok (.getfield 38, 3) := by decide +kernel
theorem dX7_byNumbers_12 : decode cX7_byNumbers 12 = .ok (.iload_n 1, 1) := by decide +kernel
theorem dX7_byNumbers_13 : decode cX7_byNumbers 13 = .ok (.iload_n 1, 1) := by decide +kernel
theorem dX7_byNumbers_14 : decode cX7_byNumbers 14 = .ok (.iastore, 1) := by decide +kernel
theorem dX7_byNumbers_15 : decode cX7_byNumbers 15 = .ok (.iinc 1 1, 3) := by decide +kernel
theorem dX7_byNumbers_18 : decode cX7_byNumbers 18 = .ok (.goto (-16), 3) := by decide +kernel
theorem dX7_byNumbers_21 : decode cX7_byNumbers 21 = .ok (.return_, 1) := by decide +kernel
theorem dX7_nextOrder_0 : decode cX7_nextOrder 0 = .ok (.aload_n 0, 1) := by decide +kernel
theorem dX7_nextOrder_1 : decode cX7_nextOrder 1 = .ok (.getfield 74, 3) := by decide +kernel
theorem dX7_nextOrder_4 : decode cX7_nextOrder 4 = .ok (.iconst 2, 1) := by decide +kernel
theorem dX7_nextOrder_5 : decode cX7_nextOrder 5 = .ok (.isub, 1) := by decide +kernel
theorem dX7_nextOrder_6 : decode cX7_nextOrder 6 = .ok (.istore_n 1, 1) := by decide +kernel
theorem dX7_nextOrder_7 : decode cX7_nextOrder 7 = .ok (.iload_n 1, 1) := by decide +kernel
theorem dX7_nextOrder_8 : decode cX7_nextOrder 8 = .ok (.ifCond .lt 26, 3) := by decide +kernel
theorem dX7_nextOrder_11 : decode cX7_nextOrder 11 = .ok (.aload_n 0, 1) := by decide +kernel
theorem dX7_nextOrder_12 : decode cX7_nextOrder 12 = .ok (.getfield 38, 3) := by decide +kernel
theorem dX7_nextOrder_15 : decode cX7_nextOrder 15 = .ok (.iload_n 1, 1) := by decide +kernel
theorem dX7_nextOrder_16 : decode cX7_nextOrder 16 = .ok (.iaload, 1) := by decide +kernel
theorem dX7_nextOrder_17 : decode cX7_nextOrder 17 = .ok (.aload_n 0, 1) := by decide +kernel
theorem dX7_nextOrder_18 : decode cX7_nextOrder 18 = .ok (.getfield 38, 3) := by decide +kernel
theorem dX7_nextOrder_21 : decode cX7_nextOrder 21 = .ok (.iload_n 1, 1) := by decide +kernel
theorem dX7_nextOrder_22 : decode cX7_nextOrder 22 = .ok (.iconst 1, 1) := by decide +kernel
theorem dX7_nextOrder_23 : decode cX7_nextOrder 23 = .ok (.iadd, 1) := by decide +kernel
theorem dX7_nextOrder_24 : decode cX7_nextOrder 24 = .ok (.iaload, 1) := by decide +kernel
theorem dX7_nextOrder_25 : decode cX7_nextOrder 25 = .ok (.if_icmp .le 9, 3) := by decide +kernel
theorem dX7_nextOrder_28 : decode cX7_nextOrder 28 = .ok (.iinc 1 (-1), 3) := by decide +kernel
theorem dX7_nextOrder_31 : decode cX7_nextOrder 31 = .ok (.goto (-24), 3) := by decide +kernel
theorem dX7_nextOrder_34 : decode cX7_nextOrder 34 = .ok (.iload_n 1, 1) := by decide +kernel
theorem dX7_nextOrder_35 : decode cX7_nextOrder 35 = .ok (.ifCond .ge 5, 3) := by decide +kernel
theorem dX7_nextOrder_38 : decode cX7_nextOrder 38 = .ok (.iconst 0, 1) := by decide +kernel
theorem dX7_nextOrder_39 : decode cX7_nextOrder 39 = .ok (.ireturn, 1) := by decide +kernel
theorem dX7_nextOrder_40 : decode cX7_nextOrder 40 = .ok (.aload_n 0, 1) := by decide +kernel
theorem dX7_nextOrder_41 : decode cX7_nextOrder 41 = .ok (.getfield 74, 3) := by decide +kernel
theorem dX7_nextOrder_44 : decode cX7_nextOrder 44 = .ok (.iconst 1, 1) := by decide +kernel
theorem dX7_nextOrder_45 : decode cX7_nextOrder 45 = .ok (.isub, 1) := by decide +kernel
theorem dX7_nextOrder_46 : decode cX7_nextOrder 46 = .ok (.istore_n 2, 1) := by decide +kernel
theorem dX7_nextOrder_47 : decode cX7_nextOrder 47 = .ok (.aload_n 0, 1) := by decide +kernel
theorem dX7_nextOrder_48 : decode cX7_nextOrder 48 = .ok (.getfield 38, 3) := by decide +kernel
theorem dX7_nextOrder_51 : decode cX7_nextOrder 51 = .ok (.iload_n 2, 1) := by decide +kernel
theorem dX7_nextOrder_52 : decode cX7_nextOrder 52 = .ok (.iaload, 1) := by decide +kernel
theorem dX7_nextOrder_53 : decode cX7_nextOrder 53 = .ok (.aload_n 0, 1) := by decide +kernel
theorem dX7_nextOrder_54 : decode cX7_nextOrder 54 = .ok (.getfield 38, 3) := by decide +kernel
theorem dX7_nextOrder_57 : decode cX7_nextOrder 57 = .ok (.iload_n 1, 1) := by decide +kernel
theorem dX7_nextOrder_58 : decode cX7_nextOrder 58 = .ok (.iaload, 1) := by decide +kernel
theorem dX7_nextOrder_59 : decode cX7_nextOrder 59 = .ok (.if_icmp .ge 9, 3) := by decide +kernel
theorem dX7_nextOrder_62 : decode cX7_nextOrder 62 = .ok (.iinc 2 (-1), 3) := by decide +kernel
theorem dX7_nextOrder_65 : decode cX7_nextOrder 65 = .ok (.goto (-18), 3) := by decide +kernel
theorem dX7_nextOrder_68 : decode cX7_nextOrder 68 = .ok (.aload_n 0, 1) := by decide +kernel
theorem dX7_nextOrder_69 : decode cX7_nextOrder 69 = .ok (.getfield 38, 3) := by decide +kernel
theorem dX7_nextOrder_72 : decode cX7_nextOrder 72 = .ok (.iload_n 1, 1) := by decide +kernel
theorem dX7_nextOrder_73 : decode cX7_nextOrder 73 = .ok (.iaload, 1) := by decide +kernel
theorem dX7_nextOrder_74 : decode cX7_nextOrder 74 = .ok (.istore_n 3, 1) := by decide +kernel
theorem dX7_nextOrder_75 : decode cX7_nextOrder 75 = .ok (.aload_n 0, 1) := by decide +kernel
theorem dX7_nextOrder_76 : decode cX7_nextOrder 76 = .ok (.getfield 38, 3) := by decide +kernel
theorem dX7_nextOrder_79 : decode cX7_nextOrder 79 = .ok (.iload_n 1, 1) := by decide +kernel
theorem dX7_nextOrder_80 : decode cX7_nextOrder 80 = .ok (.aload_n 0, 1) := by decide +kernel
theorem dX7_nextOrder_81 : decode cX7_nextOrder 81 = .ok (.getfield 38, 3) := by decide +kernel
theorem dX7_nextOrder_84 : decode cX7_nextOrder 84 = .ok (.iload_n 2, 1) := by decide +kernel
theorem dX7_nextOrder_85 : decode cX7_nextOrder 85 = .ok (.iaload, 1) := by decide +kernel
theorem dX7_nextOrder_86 : decode cX7_nextOrder 86 = .ok (.iastore, 1) := by decide +kernel
theorem dX7_nextOrder_87 : decode cX7_nextOrder 87 = .ok (.aload_n 0, 1) := by decide +kernel
theorem dX7_nextOrder_88 : decode cX7_nextOrder 88 = .ok (.getfield 38, 3) := by decide +kernel
theorem dX7_nextOrder_91 : decode cX7_nextOrder 91 = .ok (.iload_n 2, 1) := by decide +kernel
theorem dX7_nextOrder_92 : decode cX7_nextOrder 92 = .ok (.iload_n 3, 1) := by decide +kernel
theorem dX7_nextOrder_93 : decode cX7_nextOrder 93 = .ok (.iastore, 1) := by decide +kernel
theorem dX7_nextOrder_94 : decode cX7_nextOrder 94 = .ok (.iload_n 1, 1) := by decide +kernel
theorem dX7_nextOrder_95 : decode cX7_nextOrder 95 = .ok (.iconst 1, 1) := by decide +kernel
theorem dX7_nextOrder_96 : decode cX7_nextOrder 96 = .ok (.iadd, 1) := by decide +kernel
theorem dX7_nextOrder_97 : decode cX7_nextOrder 97 = .ok (.istore 4, 2) := by decide +kernel
theorem dX7_nextOrder_99 : decode cX7_nextOrder 99 = .ok (.aload_n 0, 1) := by decide +kernel
theorem dX7_nextOrder_100 : decode cX7_nextOrder 100 = .ok (.getfield 74, 3) := by decide +kernel
theorem dX7_nextOrder_103 : decode cX7_nextOrder 103 = .ok (.iconst 1, 1) := by decide +kernel
theorem dX7_nextOrder_104 : decode cX7_nextOrder 104 = .ok (.isub, 1) := by decide +kernel
theorem dX7_nextOrder_105 : decode cX7_nextOrder 105 = .ok (.istore 5, 2) := by decide +kernel
theorem dX7_nextOrder_107 : decode cX7_nextOrder 107 = .ok (.iload 4, 2) := by decide +kernel
theorem dX7_nextOrder_109 : decode cX7_nextOrder 109 = .ok (.iload 5, 2) := by decide +kernel
theorem dX7_nextOrder_111 : decode cX7_nextOrder 111 = .ok (.if_icmp .ge 42, 3) := by decide +kernel
theorem dX7_nextOrder_114 : decode cX7_nextOrder 114 = .ok (.aload_n 0, 1) := by decide +kernel
theorem dX7_nextOrder_115 : decode cX7_nextOrder 115 = .ok (.getfield 38, 3) := by decide +kernel
theorem dX7_nextOrder_118 : decode cX7_nextOrder 118 = .ok (.iload 4, 2) := by decide +kernel
theorem dX7_nextOrder_120 : decode cX7_nextOrder 120 = .ok (.iaload, 1) := by decide +kernel
theorem dX7_nextOrder_121 : decode cX7_nextOrder 121 = .ok (.istore_n 3, 1) := by decide +kernel
theorem dX7_nextOrder_122 : decode cX7_nextOrder 122 = .ok (.aload_n 0, 1) := by decide +kernel
theorem dX7_nextOrder_123 : decode cX7_nextOrder 123 = .ok (.getfield 38, 3) := by decide +kernel
theorem dX7_nextOrder_126 : decode cX7_nextOrder 126 = .ok (.iload 4, 2) := by decide +kernel
theorem dX7_nextOrder_128 : decode cX7_nextOrder 128 = .ok (.aload_n 0, 1) := by decide +kernel
theorem dX7_nextOrder_129 : decode cX7_nextOrder 129 = .ok (.getfield 38, 3) := by decide +kernel
theorem dX7_nextOrder_132 : decode cX7_nextOrder 132 = .ok (.iload 5, 2) := by decide +kernel
theorem dX7_nextOrder_134 : decode cX7_nextOrder 134 = .ok (.iaload, 1) := by decide +kernel
theorem dX7_nextOrder_135 : decode cX7_nextOrder 135 = .ok (.iastore, 1) := by decide +kernel
theorem dX7_nextOrder_136 : decode cX7_nextOrder 136 = .ok (.aload_n 0, 1) := by decide +kernel
theorem dX7_nextOrder_137 : decode cX7_nextOrder 137 = .ok (.getfield 38, 3) := by decide +kernel
theorem dX7_nextOrder_140 : decode cX7_nextOrder 140 = .ok (.iload 5, 2) := by decide +kernel
theorem dX7_nextOrder_142 : decode cX7_nextOrder 142 = .ok (.iload_n 3, 1) := by decide +kernel
theorem dX7_nextOrder_143 : decode cX7_nextOrder 143 = .ok (.iastore, 1) := by decide +kernel
theorem dX7_nextOrder_144 : decode cX7_nextOrder 144 = .ok (.iinc 4 1, 3) := by decide +kernel
theorem dX7_nextOrder_147 : decode cX7_nextOrder 147 = .ok (.iinc 5 (-1), 3) := by decide +kernel
theorem dX7_nextOrder_150 : decode cX7_nextOrder 150 = .ok (.goto (-43), 3) := by decide +kernel
theorem dX7_nextOrder_153 : decode cX7_nextOrder 153 = .ok (.iconst 1, 1) := by decide +kernel
theorem dX7_nextOrder_154 : decode cX7_nextOrder 154 = .ok (.ireturn, 1) := by decide +kernel
theorem dX7_order_0 : decode cX7_order 0 = .ok (.aload_n 0, 1) := by decide +kernel
theorem dX7_order_1 : decode cX7_order 1 = .ok (.invokevirtual 174, 3) := by decide +kernel
theorem dX7_order_4 : decode cX7_order 4 = .ok (.ifCond .eq 6, 3) := by decide +kernel
theorem dX7_order_7 : decode cX7_order 7 = .ok (.ldc 173, 2) := by decide +kernel
theorem dX7_order_9 : decode cX7_order 9 = .ok (.ireturn, 1) := by decide +kernel
theorem dX7_order_10 : decode cX7_order 10 = .ok (.iload_n 1, 1) := by decide +kernel
theorem dX7_order_11 : decode cX7_order 11 = .ok (.iconst 1, 1) := by decide +kernel
theorem dX7_order_12 : decode cX7_order 12 = .ok (.bipush 40, 2) := by decide +kernel
theorem dX7_order_14 : decode cX7_order 14 = .ok (.invokestatic 70, 3) := by decide +kernel
theorem dX7_order_17 : decode cX7_order 17 = .ok (.ifCond .eq 8, 3) := by decide +kernel
theorem dX7_order_20 : decode cX7_order 20 = .ok (.iload_n 2, 1) := by decide +kernel
theorem dX7_order_21 : decode cX7_order 21 = .ok (.iconst (-1), 1) := by decide +kernel
theorem dX7_order_22 : decode cX7_order 22 = .ok (.if_icmp .ge 6, 3) := by decide +kernel
theorem dX7_order_25 : decode cX7_order 25 = .ok (.ldc 84, 2) := by decide +kernel
theorem dX7_order_27 : decode cX7_order 27 = .ok (.ireturn, 1) := by decide +kernel
theorem dX7_order_28 : decode cX7_order 28 = .ok (.iconst (-1), 1) := by decide +kernel
theorem dX7_order_29 : decode cX7_order 29 = .ok (.istore_n 3, 1) := by decide +kernel
theorem dX7_order_30 : decode cX7_order 30 = .ok (.iconst 1, 1) := by decide +kernel
theorem dX7_order_31 : decode cX7_order 31 = .ok (.istore 4, 2) := by decide +kernel
theorem dX7_order_33 : decode cX7_order 33 = .ok (.aload_n 0, 1) := by decide +kernel
theorem dX7_order_34 : decode cX7_order 34 = .ok (.invokevirtual 62, 3) := by decide +kernel
theorem dX7_order_37 : decode cX7_order 37 = .ok (.iload 4, 2) := by decide +kernel
theorem dX7_order_39 : decode cX7_order 39 = .ok (.ifCond .eq 143, 3) := by decide +kernel
theorem dX7_order_42 : decode cX7_order 42 = .ok (.aload_n 0, 1) := by decide +kernel
theorem dX7_order_43 : decode cX7_order 43 = .ok (.invokevirtual 202, 3) := by decide +kernel
theorem dX7_order_46 : decode cX7_order 46 = .ok (.iconst 0, 1) := by decide +kernel
theorem dX7_order_47 : decode cX7_order 47 = .ok (.istore 5, 2) := by decide +kernel
theorem dX7_order_49 : decode cX7_order 49 = .ok (.iload 5, 2) := by decide +kernel
theorem dX7_order_51 : decode cX7_order 51 = .ok (.aload_n 0, 1) := by decide +kernel
theorem dX7_order_52 : decode cX7_order 52 = .ok (.getfield 74, 3) := by decide +kernel
theorem dX7_order_55 : decode cX7_order 55 = .ok (.if_icmp .ge 34, 3) := by decide +kernel
theorem dX7_order_58 : decode cX7_order 58 = .ok (.aload_n 0, 1) := by decide +kernel
theorem dX7_order_59 : decode cX7_order 59 = .ok (.getfield 41, 3) := by decide +kernel
theorem dX7_order_62 : decode cX7_order 62 = .ok (.bipush 55, 2) := by decide +kernel
theorem dX7_order_64 : decode cX7_order 64 = .ok (.iload 5, 2) := by decide +kernel
theorem dX7_order_66 : decode cX7_order 66 = .ok (.iadd, 1) := by decide +kernel
theorem dX7_order_67 : decode cX7_order 67 = .ok (.aload_n 0, 1) := by decide +kernel
theorem dX7_order_68 : decode cX7_order 68 = .ok (.getfield 25, 3) := by decide +kernel
theorem dX7_order_71 : decode cX7_order 71 = .ok (.bipush 55, 2) := by decide +kernel
theorem dX7_order_73 : decode cX7_order 73 = .ok (.aload_n 0, 1) := by decide +kernel
theorem dX7_order_74 : decode cX7_order 74 = .ok (.getfield 38, 3) := by decide +kernel
theorem dX7_order_77 : decode cX7_order 77 = .ok (.iload 5, 2) := by decide +kernel
theorem dX7_order_79 : decode cX7_order 79 = .ok (.iaload, 1) := by decide +kernel
theorem dX7_order_80 : decode cX7_order 80 = .ok (.iadd, 1) := by decide +kernel
theorem dX7_order_81 : decode cX7_order 81 = .ok (.iaload, 1) := by decide +kernel
theorem dX7_order_82 : decode cX7_order 82 = .ok (.iastore, 1) := by decide +kernel
theorem dX7_order_83 : decode cX7_order 83 = .ok (.iinc 5 1, 3) := by decide +kernel
theorem dX7_order_86 : decode cX7_order 86 = .ok (.goto (-37), 3) := by decide +kernel
theorem dX7_order_89 : decode cX7_order 89 = .ok (.aload_n 0, 1) := by decide +kernel
theorem dX7_order_90 : decode cX7_order 90 = .ok (.iload_n 1, 1) := by decide +kernel
theorem dX7_order_91 : decode cX7_order 91 = .ok (.invokevirtual 205, 3) := by decide +kernel
theorem dX7_order_94 : decode cX7_order 94 = .ok (.iconst 0, 1) := by decide +kernel
theorem dX7_order_95 : decode cX7_order 95 = .ok (.istore 5, 2) := by decide +kernel
theorem dX7_order_97 : decode cX7_order 97 = .ok (.iconst 0, 1) := by decide +kernel
theorem dX7_order_98 : decode cX7_order 98 = .ok (.istore 6, 2) := by decide +kernel
theorem dX7_order_100 : decode cX7_order 100 = .ok (.iload 6, 2) := by decide +kernel
theorem dX7_order_102 : decode cX7_order 102 = .ok (.aload_n 0, 1) := by decide +kernel
theorem dX7_order_103 : decode cX7_order 103 = .ok (.getfield 74, 3) := by decide +kernel
theorem dX7_order_106 : decode cX7_order 106 = .ok (.if_icmp .ge 43, 3) := by decide +kernel
theorem dX7_order_109 : decode cX7_order 109 = .ok (.iload 5, 2) := by decide +kernel
theorem dX7_order_111 : decode cX7_order 111 = .ok (.aload_n 0, 1) := by decide +kernel
theorem dX7_order_112 : decode cX7_order 112 = .ok (.getfield 41, 3) := by decide +kernel
theorem dX7_order_115 : decode cX7_order 115 = .ok (.bipush 49, 2) := by decide +kernel
theorem dX7_order_117 : decode cX7_order 117 = .ok (.iload 6, 2) := by decide +kernel
theorem dX7_order_119 : decode cX7_order 119 = .ok (.iadd, 1) := by decide +kernel
theorem dX7_order_120 : decode cX7_order 120 = .ok (.iaload, 1) := by decide +kernel
theorem dX7_order_121 : decode cX7_order 121 = .ok (.bipush 9, 2) := by decide +kernel
theorem dX7_order_123 : decode cX7_order 123 = .ok (.if_icmp .ne 16, 3) := by decide +kernel
theorem dX7_order_126 : decode cX7_order 126 = .ok (.aload_n 0, 1) := by decide +kernel
theorem dX7_order_127 : decode cX7_order 127 = .ok (.getfield 41, 3) := by decide +kernel
theorem dX7_order_130 : decode cX7_order 130 = .ok (.bipush 55, 2) := by decide +kernel
theorem dX7_order_132 : decode cX7_order 132 = .ok (.iload 6, 2) := by decide +kernel
theorem dX7_order_134 : decode cX7_order 134 = .ok (.iadd, 1) := by decide +kernel
theorem dX7_order_135 : decode cX7_order 135 = .ok (.iaload, 1) := by decide +kernel
theorem dX7_order_136 : decode cX7_order 136 = .ok (.goto 4, 3) := by decide +kernel
theorem dX7_order_139 : decode cX7_order 139 = .ok (.iconst 0, 1) := by decide +kernel
theorem dX7_order_140 : decode cX7_order 140 = .ok (.iadd, 1) := by decide +kernel
theorem dX7_order_141 : decode cX7_order 141 = .ok (.istore 5, 2) := by decide +kernel
theorem dX7_order_143 : decode cX7_order 143 = .ok (.iinc 6 1, 3) := by decide +kernel
theorem dX7_order_146 : decode cX7_order 146 = .ok (.goto (-46), 3) := by decide +kernel
theorem dX7_order_149 : decode cX7_order 149 = .ok (.iload 5, 2) := by decide +kernel
theorem dX7_order_151 : decode cX7_order 151 = .ok (.iload_n 3, 1) := by decide +kernel
theorem dX7_order_152 : decode cX7_order 152 = .ok (.if_icmp .le 21, 3) := by decide +kernel
theorem dX7_order_155 : decode cX7_order 155 = .ok (.iload 5, 2) := by decide +kernel
theorem dX7_order_157 : decode cX7_order 157 = .ok (.istore_n 3, 1) := by decide +kernel
theorem dX7_order_158 : decode cX7_order 158 = .ok (.aload_n 0, 1) := by decide +kernel
theorem dX7_order_159 : decode cX7_order 159 = .ok (.getfield 38, 3) := by decide +kernel
theorem dX7_order_162 : decode cX7_order 162 = .ok (.iconst 0, 1) := by decide +kernel
theorem dX7_order_163 : decode cX7_order 163 = .ok (.aload_n 0, 1) := by decide +kernel
theorem dX7_order_164 : decode cX7_order 164 = .ok (.getfield 53, 3) := by decide +kernel
theorem dX7_order_167 : decode cX7_order 167 = .ok (.iconst 0, 1) := by decide +kernel
theorem dX7_order_168 : decode cX7_order 168 = .ok (.bipush 6, 2) := by decide +kernel
theorem dX7_order_170 : decode cX7_order 170 = .ok (.invokestatic 155, 3) := by decide +kernel
theorem dX7_order_173 : decode cX7_order 173 = .ok (.aload_n 0, 1) := by decide +kernel
theorem dX7_order_174 : decode cX7_order 174 = .ok (.invokevirtual 220, 3) := by decide +kernel
theorem dX7_order_177 : decode cX7_order 177 = .ok (.istore 4, 2) := by decide +kernel
theorem dX7_order_179 : decode cX7_order 179 = .ok (.goto (-142), 3) := by decide +kernel
theorem dX7_order_182 : decode cX7_order 182 = .ok (.iload_n 2, 1) := by decide +kernel
theorem dX7_order_183 : decode cX7_order 183 = .ok (.ifCond .ge 7, 3) := by decide +kernel
theorem dX7_order_186 : decode cX7_order 186 = .ok (.iload_n 3, 1) := by decide +kernel
theorem dX7_order_187 : decode cX7_order 187 = .ok (.goto 22, 3) := by decide +kernel
theorem dX7_order_190 : decode cX7_order 190 = .ok (.iload_n 2, 1) := by decide +kernel
theorem dX7_order_191 : decode cX7_order 191 = .ok (.aload_n 0, 1) := by decide +kernel
theorem dX7_order_192 : decode cX7_order 192 = .ok (.getfield 74, 3) := by decide +kernel
theorem dX7_order_195 : decode cX7_order 195 = .ok (.if_icmp .ge 12, 3) := by decide +kernel
theorem dX7_order_198 : decode cX7_order 198 = .ok (.aload_n 0, 1) := by decide +kernel
theorem dX7_order_199 : decode cX7_order 199 = .ok (.getfield 53, 3) := by decide +kernel
theorem dX7_order_202 : decode cX7_order 202 = .ok (.iload_n 2, 1) := by decide +kernel
theorem dX7_order_203 : decode cX7_order 203 = .ok (.iaload, 1) := by decide +kernel
theorem dX7_order_204 : decode cX7_order 204 = .ok (.goto 5, 3) := by decide +kernel
theorem dX7_order_207 : decode cX7_order 207 = .ok (.ldc 135, 2) := by decide +kernel
theorem dX7_order_209 : decode cX7_order 209 = .ok (.ireturn, 1) := by decide +kernel
theorem dX7_leads_0 : decode cX7_leads 0 = .ok (.aload_n 0, 1) := by decide +kernel
theorem dX7_leads_1 : decode cX7_leads 1 = .ok (.iload_n 1, 1) := by decide +kernel
theorem dX7_leads_2 : decode cX7_leads 2 = .ok (.invokevirtual 189, 3) := by decide +kernel
theorem dX7_leads_5 : decode cX7_leads 5 = .ok (.ifCond .eq 22, 3) := by decide +kernel
theorem dX7_leads_8 : decode cX7_leads 8 = .ok (.iload_n 2, 1) := by decide +kernel
theorem dX7_leads_9 : decode cX7_leads 9 = .ok (.iconst 1, 1) := by decide +kernel
theorem dX7_leads_10 : decode cX7_leads 10 = .ok (.bipush 40, 2) := by decide +kernel
theorem dX7_leads_12 : decode cX7_leads 12 = .ok (.invokestatic 70, 3) := by decide +kernel
theorem dX7_leads_15 : decode cX7_leads 15 = .ok (.ifCond .eq 12, 3) := by decide +kernel
theorem dX7_leads_18 : decode cX7_leads 18 = .ok (.iload_n 3, 1) := by decide +kernel
theorem dX7_leads_19 : decode cX7_leads 19 = .ok (.iconst 0, 1) := by decide +kernel
theorem dX7_leads_20 : decode cX7_leads 20 = .ok (.iconst 1, 1) := by decide +kernel
theorem dX7_leads_21 : decode cX7_leads 21 = .ok (.invokestatic 70, 3) := by decide +kernel
theorem dX7_leads_24 : decode cX7_leads 24 = .ok (.ifCond .ne 6, 3) := by decide +kernel
theorem dX7_leads_27 : decode cX7_leads 27 = .ok (.ldc 84, 2) := by decide +kernel
theorem dX7_leads_29 : decode cX7_leads 29 = .ok (.ireturn, 1) := by decide +kernel
theorem dX7_leads_30 : decode cX7_leads 30 = .ok (.iconst 0, 1) := by decide +kernel
theorem dX7_leads_31 : decode cX7_leads 31 = .ok (.istore 4, 2) := by decide +kernel
theorem dX7_leads_33 : decode cX7_leads 33 = .ok (.iconst (-1), 1) := by decide +kernel
theorem dX7_leads_34 : decode cX7_leads 34 = .ok (.istore 5, 2) := by decide +kernel
theorem dX7_leads_36 : decode cX7_leads 36 = .ok (.iload_n 1, 1) := by decide +kernel
theorem dX7_leads_37 : decode cX7_leads 37 = .ok (.iconst 1, 1) := by decide +kernel
theorem dX7_leads_38 : decode cX7_leads 38 = .ok (.iadd, 1) := by decide +kernel
theorem dX7_leads_39 : decode cX7_leads 39 = .ok (.istore 6, 2) := by decide +kernel
theorem dX7_leads_41 : decode cX7_leads 41 = .ok (.iload 6, 2) := by decide +kernel
theorem dX7_leads_43 : decode cX7_leads 43 = .ok (.bipush 9, 2) := by decide +kernel
theorem dX7_leads_45 : decode cX7_leads 45 = .ok (.if_icmp .gt 70, 3) := by decide +kernel
theorem dX7_leads_48 : decode cX7_leads 48 = .ok (.aload_n 0, 1) := by decide +kernel
theorem dX7_leads_49 : decode cX7_leads 49 = .ok (.invokevirtual 202, 3) := by decide +kernel
theorem dX7_leads_52 : decode cX7_leads 52 = .ok (.aload_n 0, 1) := by decide +kernel
theorem dX7_leads_53 : decode cX7_leads 53 = .ok (.getfield 41, 3) := by decide +kernel
theorem dX7_leads_56 : decode cX7_leads 56 = .ok (.bipush 17, 2) := by decide +kernel
theorem dX7_leads_58 : decode cX7_leads 58 = .ok (.iload_n 1, 1) := by decide +kernel
theorem dX7_leads_59 : decode cX7_leads 59 = .ok (.iadd, 1) := by decide +kernel
theorem dX7_leads_60 : decode cX7_leads 60 = .ok (.iload 6, 2) := by decide +kernel
theorem dX7_leads_62 : decode cX7_leads 62 = .ok (.iastore, 1) := by decide +kernel
theorem dX7_leads_63 : decode cX7_leads 63 = .ok (.aload_n 0, 1) := by decide +kernel
theorem dX7_leads_64 : decode cX7_leads 64 = .ok (.iload_n 2, 1) := by decide +kernel
theorem dX7_leads_65 : decode cX7_leads 65 = .ok (.invokevirtual 205, 3) := by decide +kernel
theorem dX7_leads_68 : decode cX7_leads 68 = .ok (.aload_n 0, 1) := by decide +kernel
theorem dX7_leads_69 : decode cX7_leads 69 = .ok (.invokevirtual 211, 3) := by decide +kernel
theorem dX7_leads_72 : decode cX7_leads 72 = .ok (.invokestatic 217, 3) := by decide +kernel
theorem dX7_leads_75 : decode cX7_leads 75 = .ok (.istore 7, 2) := by decide +kernel
theorem dX7_leads_77 : decode cX7_leads 77 = .ok (.iload 7, 2) := by decide +kernel
theorem dX7_leads_79 : decode cX7_leads 79 = .ok (.iload 5, 2) := by decide +kernel
theorem dX7_leads_81 : decode cX7_leads 81 = .ok (.if_icmp .le 8, 3) := by decide +kernel
theorem dX7_leads_84 : decode cX7_leads 84 = .ok (.iload 6, 2) := by decide +kernel
theorem dX7_leads_86 : decode cX7_leads 86 = .ok (.goto 5, 3) := by decide +kernel
theorem dX7_leads_89 : decode cX7_leads 89 = .ok (.iload 4, 2) := by decide +kernel
theorem dX7_leads_91 : decode cX7_leads 91 = .ok (.istore 4, 2) := by decide +kernel
theorem dX7_leads_93 : decode cX7_leads 93 = .ok (.iload 7, 2) := by decide +kernel
theorem dX7_leads_95 : decode cX7_leads 95 = .ok (.iload 5, 2) := by decide +kernel
theorem dX7_leads_97 : decode cX7_leads 97 = .ok (.if_icmp .le 8, 3) := by decide +kernel
theorem dX7_leads_100 : decode cX7_leads 100 = .ok (.iload 7, 2) := by decide +kernel
theorem dX7_leads_102 : decode cX7_leads 102 = .ok (.goto 5, 3) := by decide +kernel
theorem dX7_leads_105 : decode cX7_leads 105 = .ok (.iload 5, 2) := by decide +kernel
theorem dX7_leads_107 : decode cX7_leads 107 = .ok (.istore 5, 2) := by decide +kernel
theorem dX7_leads_109 : decode cX7_leads 109 = .ok (.iinc 6 1, 3) := by decide +kernel
theorem dX7_leads_112 : decode cX7_leads 112 = .ok (.goto (-71), 3) := by decide +kernel
theorem dX7_leads_115 : decode cX7_leads 115 = .ok (.iload_n 3, 1) := by decide +kernel
theorem dX7_leads_116 : decode cX7_leads 116 = .ok (.ifCond .ne 8, 3) := by decide +kernel
theorem dX7_leads_119 : decode cX7_leads 119 = .ok (.iload 4, 2) := by decide +kernel
theorem dX7_leads_121 : decode cX7_leads 121 = .ok (.goto 5, 3) := by decide +kernel
theorem dX7_leads_124 : decode cX7_leads 124 = .ok (.iload 5, 2) := by decide +kernel
theorem dX7_leads_126 : decode cX7_leads 126 = .ok (.ireturn, 1) := by decide +kernel
theorem dX7_weightOf_0 : decode cX7_weightOf 0 = .ok (.iconst 0, 1) := by decide +kernel
theorem dX7_weightOf_1 : decode cX7_weightOf 1 = .ok (.istore_n 2, 1) := by decide +kernel
theorem dX7_weightOf_2 : decode cX7_weightOf 2 = .ok (.iconst 0, 1) := by decide +kernel
theorem dX7_weightOf_3 : decode cX7_weightOf 3 = .ok (.istore_n 3, 1) := by decide +kernel
theorem dX7_weightOf_4 : decode cX7_weightOf 4 = .ok (.iload_n 3, 1) := by decide +kernel
theorem dX7_weightOf_5 : decode cX7_weightOf 5 = .ok (.aload_n 0, 1) := by decide +kernel
theorem dX7_weightOf_6 : decode cX7_weightOf 6 = .ok (.getfield 74, 3) := by decide +kernel
theorem dX7_weightOf_9 : decode cX7_weightOf 9 = .ok (.if_icmp .ge 27, 3) := by decide +kernel
theorem dX7_weightOf_12 : decode cX7_weightOf 12 = .ok (.iload_n 2, 1) := by decide +kernel
theorem dX7_weightOf_13 : decode cX7_weightOf 13 = .ok (.iload_n 1, 1) := by decide +kernel
theorem dX7_weightOf_14 : decode cX7_weightOf 14 = .ok (.iload_n 3, 1) := by decide +kernel
theorem dX7_weightOf_15 : decode cX7_weightOf 15 = .ok (.ishr, 1) := by decide +kernel
theorem dX7_weightOf_16 : decode cX7_weightOf 16 = .ok (.iconst 1, 1) := by decide +kernel
theorem dX7_weightOf_17 : decode cX7_weightOf 17 = .ok (.iand, 1) := by decide +kernel
theorem dX7_weightOf_18 : decode cX7_weightOf 18 = .ok (.aload_n 0, 1) := by decide +kernel
theorem dX7_weightOf_19 : decode cX7_weightOf 19 = .ok (.getfield 25, 3) := by decide +kernel
theorem dX7_weightOf_22 : decode cX7_weightOf 22 = .ok (.bipush 55, 2) := by decide +kernel
theorem dX7_weightOf_24 : decode cX7_weightOf 24 = .ok (.iload_n 3, 1) := by decide +kernel
theorem dX7_weightOf_25 : decode cX7_weightOf 25 = .ok (.iadd, 1) := by decide +kernel
theorem dX7_weightOf_26 : decode cX7_weightOf 26 = .ok (.iaload, 1) := by decide +kernel
theorem dX7_weightOf_27 : decode cX7_weightOf 27 = .ok (.imul, 1) := by decide +kernel
theorem dX7_weightOf_28 : decode cX7_weightOf 28 = .ok (.iadd, 1) := by decide +kernel
theorem dX7_weightOf_29 : decode cX7_weightOf 29 = .ok (.istore_n 2, 1) := by decide +kernel
theorem dX7_weightOf_30 : decode cX7_weightOf 30 = .ok (.iinc 3 1, 3) := by decide +kernel
theorem dX7_weightOf_33 : decode cX7_weightOf 33 = .ok (.goto (-29), 3) := by decide +kernel
theorem dX7_weightOf_36 : decode cX7_weightOf 36 = .ok (.iload_n 2, 1) := by decide +kernel
theorem dX7_weightOf_37 : decode cX7_weightOf 37 = .ok (.ireturn, 1) := by decide +kernel
theorem dX7_sets_0 : decode cX7_sets 0 = .ok (.aload_n 0, 1) := by decide +kernel
theorem dX7_sets_1 : decode cX7_sets 1 = .ok (.invokevirtual 174, 3) := by decide +kernel
theorem dX7_sets_4 : decode cX7_sets 4 = .ok (.ifCond .eq 6, 3) := by decide +kernel
theorem dX7_sets_7 : decode cX7_sets 7 = .ok (.ldc 173, 2) := by decide +kernel
theorem dX7_sets_9 : decode cX7_sets 9 = .ok (.ireturn, 1) := by decide +kernel
theorem dX7_sets_10 : decode cX7_sets 10 = .ok (.iload_n 1, 1) := by decide +kernel
theorem dX7_sets_11 : decode cX7_sets 11 = .ok (.iconst 0, 1) := by decide +kernel
theorem dX7_sets_12 : decode cX7_sets 12 = .ok (.bipush 54, 2) := by decide +kernel
theorem dX7_sets_14 : decode cX7_sets 14 = .ok (.invokestatic 70, 3) := by decide +kernel
theorem dX7_sets_17 : decode cX7_sets 17 = .ok (.ifCond .eq 12, 3) := by decide +kernel
theorem dX7_sets_20 : decode cX7_sets 20 = .ok (.iload_n 2, 1) := by decide +kernel
theorem dX7_sets_21 : decode cX7_sets 21 = .ok (.iconst 0, 1) := by decide +kernel
theorem dX7_sets_22 : decode cX7_sets 22 = .ok (.iconst 2, 1) := by decide +kernel
theorem dX7_sets_23 : decode cX7_sets 23 = .ok (.invokestatic 70, 3) := by decide +kernel
theorem dX7_sets_26 : decode cX7_sets 26 = .ok (.ifCond .ne 6, 3) := by decide +kernel
theorem dX7_sets_29 : decode cX7_sets 29 = .ok (.ldc 84, 2) := by decide +kernel
theorem dX7_sets_31 : decode cX7_sets 31 = .ok (.ireturn, 1) := by decide +kernel
theorem dX7_sets_32 : decode cX7_sets 32 = .ok (.iconst 0, 1) := by decide +kernel
theorem dX7_sets_33 : decode cX7_sets 33 = .ok (.istore_n 3, 1) := by decide +kernel
theorem dX7_sets_34 : decode cX7_sets 34 = .ok (.iconst 0, 1) := by decide +kernel
theorem dX7_sets_35 : decode cX7_sets 35 = .ok (.istore 4, 2) := by decide +kernel
theorem dX7_sets_37 : decode cX7_sets 37 = .ok (.iload 4, 2) := by decide +kernel
theorem dX7_sets_39 : decode cX7_sets 39 = .ok (.aload_n 0, 1) := by decide +kernel
theorem dX7_sets_40 : decode cX7_sets 40 = .ok (.getfield 74, 3) := by decide +kernel
theorem dX7_sets_43 : decode cX7_sets 43 = .ok (.if_icmp .ge 33, 3) := by decide +kernel
theorem dX7_sets_46 : decode cX7_sets 46 = .ok (.iload_n 3, 1) := by decide +kernel
theorem dX7_sets_47 : decode cX7_sets 47 = .ok (.aload_n 0, 1) := by decide +kernel
theorem dX7_sets_48 : decode cX7_sets 48 = .ok (.aload_n 0, 1) := by decide +kernel
theorem dX7_sets_49 : decode cX7_sets 49 = .ok (.getfield 25, 3) := by decide +kernel
theorem dX7_sets_52 : decode cX7_sets 52 = .ok (.iload 4, 2) := by decide +kernel
theorem dX7_sets_54 : decode cX7_sets 54 = .ok (.invokevirtual 195, 3) := by decide +kernel
theorem dX7_sets_57 : decode cX7_sets 57 = .ok (.ifCond .eq 7, 3) := by decide +kernel
theorem dX7_sets_60 : decode cX7_sets 60 = .ok (.iconst 0, 1) := by decide +kernel
theorem dX7_sets_61 : decode cX7_sets 61 = .ok (.goto 7, 3) := by decide +kernel
theorem dX7_sets_64 : decode cX7_sets 64 = .ok (.iconst 1, 1) := by decide +kernel
theorem dX7_sets_65 : decode cX7_sets 65 = .ok (.iload 4, 2) := by decide +kernel
theorem dX7_sets_67 : decode cX7_sets 67 = .ok (.ishl, 1) := by decide +kernel
theorem dX7_sets_68 : decode cX7_sets 68 = .ok (.ior, 1) := by decide +kernel
theorem dX7_sets_69 : decode cX7_sets 69 = .ok (.istore_n 3, 1) := by decide +kernel
theorem dX7_sets_70 : decode cX7_sets 70 = .ok (.iinc 4 1, 3) := by decide +kernel
theorem dX7_sets_73 : decode cX7_sets 73 = .ok (.goto (-36), 3) := by decide +kernel
theorem dX7_sets_76 : decode cX7_sets 76 = .ok (.iconst 0, 1) := by decide +kernel
theorem dX7_sets_77 : decode cX7_sets 77 = .ok (.istore 4, 2) := by decide +kernel
theorem dX7_sets_79 : decode cX7_sets 79 = .ok (.iload_n 3, 1) := by decide +kernel
theorem dX7_sets_80 : decode cX7_sets 80 = .ok (.istore 5, 2) := by decide +kernel
theorem dX7_sets_82 : decode cX7_sets 82 = .ok (.iconst 0, 1) := by decide +kernel
theorem dX7_sets_83 : decode cX7_sets 83 = .ok (.istore 6, 2) := by decide +kernel
theorem dX7_sets_85 : decode cX7_sets 85 = .ok (.iconst 0, 1) := by decide +kernel
theorem dX7_sets_86 : decode cX7_sets 86 = .ok (.istore 7, 2) := by decide +kernel
theorem dX7_sets_88 : decode cX7_sets 88 = .ok (.iload 7, 2) := by decide +kernel
theorem dX7_sets_90 : decode cX7_sets 90 = .ok (.iconst 1, 1) := by decide +kernel
theorem dX7_sets_91 : decode cX7_sets 91 = .ok (.aload_n 0, 1) := by decide +kernel
theorem dX7_sets_92 : decode cX7_sets 92 = .ok (.getfield 74, 3) := by decide +kernel
theorem dX7_sets_95 : decode cX7_sets 95 = .ok (.ishl, 1) := by decide +kernel
theorem dX7_sets_96 : decode cX7_sets 96 = .ok (.if_icmp .ge 45, 3) := by decide +kernel
theorem dX7_sets_99 : decode cX7_sets 99 = .ok (.iload 7, 2) := by decide +kernel
theorem dX7_sets_101 : decode cX7_sets 101 = .ok (.iload_n 3, 1) := by decide +kernel
theorem dX7_sets_102 : decode cX7_sets 102 = .ok (.iconst (-1), 1) := by decide +kernel
theorem dX7_sets_103 : decode cX7_sets 103 = .ok (.ixor, 1) := by decide +kernel
theorem dX7_sets_104 : decode cX7_sets 104 = .ok (.iand, 1) := by decide +kernel
theorem dX7_sets_105 : decode cX7_sets 105 = .ok (.ifCond .ne 30, 3) := by decide +kernel
theorem dX7_sets_108 : decode cX7_sets 108 = .ok (.aload_n 0, 1) := by decide +kernel
theorem dX7_sets_109 : decode cX7_sets 109 = .ok (.iload 7, 2) := by decide +kernel
theorem dX7_sets_111 : decode cX7_sets 111 = .ok (.invokevirtual 223, 3) := by decide +kernel
theorem dX7_sets_114 : decode cX7_sets 114 = .ok (.iload_n 1, 1) := by decide +kernel
theorem dX7_sets_115 : decode cX7_sets 115 = .ok (.if_icmp .ne 20, 3) := by decide +kernel
theorem dX7_sets_118 : decode cX7_sets 118 = .ok (.iinc 4 1, 3) := by decide +kernel
theorem dX7_sets_121 : decode cX7_sets 121 = .ok (.iload 5, 2) := by decide +kernel
theorem dX7_sets_123 : decode cX7_sets 123 = .ok (.iload 7, 2) := by decide +kernel
theorem dX7_sets_125 : decode cX7_sets 125 = .ok (.iand, 1) := by decide +kernel
theorem dX7_sets_126 : decode cX7_sets 126 = .ok (.istore 5, 2) := by decide +kernel
theorem dX7_sets_128 : decode cX7_sets 128 = .ok (.iload 6, 2) := by decide +kernel
theorem dX7_sets_130 : decode cX7_sets 130 = .ok (.iload 7, 2) := by decide +kernel
theorem dX7_sets_132 : decode cX7_sets 132 = .ok (.ior, 1) := by decide +kernel
theorem dX7_sets_133 : decode cX7_sets 133 = .ok (.istore 6, 2) := by decide +kernel
theorem dX7_sets_135 : decode cX7_sets 135 = .ok (.iinc 7 1, 3) := by decide +kernel
theorem dX7_sets_138 : decode cX7_sets 138 = .ok (.goto (-50), 3) := by decide +kernel
theorem dX7_sets_141 : decode cX7_sets 141 = .ok (.iload_n 2, 1) := by decide +kernel
theorem dX7_sets_142 : decode cX7_sets 142 = .ok (.ifCond .ne 8, 3) := by decide +kernel
theorem dX7_sets_145 : decode cX7_sets 145 = .ok (.iload 4, 2) := by decide +kernel
theorem dX7_sets_147 : decode cX7_sets 147 = .ok (.goto 24, 3) := by decide +kernel
theorem dX7_sets_150 : decode cX7_sets 150 = .ok (.iload 4, 2) := by decide +kernel
theorem dX7_sets_152 : decode cX7_sets 152 = .ok (.ifCond .ne 7, 3) := by decide +kernel
theorem dX7_sets_155 : decode cX7_sets 155 = .ok (.iconst 0, 1) := by decide +kernel
theorem dX7_sets_156 : decode cX7_sets 156 = .ok (.goto 15, 3) := by decide +kernel
theorem dX7_sets_159 : decode cX7_sets 159 = .ok (.iload_n 2, 1) := by decide +kernel
theorem dX7_sets_160 : decode cX7_sets 160 = .ok (.iconst 1, 1) := by decide +kernel
theorem dX7_sets_161 : decode cX7_sets 161 = .ok (.if_icmp .ne 8, 3) := by decide +kernel
theorem dX7_sets_164 : decode cX7_sets 164 = .ok (.iload 5, 2) := by decide +kernel
theorem dX7_sets_166 : decode cX7_sets 166 = .ok (.goto 5, 3) := by decide +kernel
theorem dX7_sets_169 : decode cX7_sets 169 = .ok (.iload 6, 2) := by decide +kernel
theorem dX7_sets_171 : decode cX7_sets 171 = .ok (.ireturn, 1) := by decide +kernel
theorem dX7_wentOfAll_0 : decode cX7_wentOfAll 0 = .ok (.iconst 0, 1) := by decide +kernel
theorem dX7_wentOfAll_1 : decode cX7_wentOfAll 1 = .ok (.istore_n 1, 1) := by decide +kernel
theorem dX7_wentOfAll_2 : decode cX7_wentOfAll 2 = .ok (.iconst 0, 1) := by decide +kernel
theorem dX7_wentOfAll_3 : decode cX7_wentOfAll 3 = .ok (.istore_n 2, 1) := by decide +kernel
theorem dX7_wentOfAll_4 : decode cX7_wentOfAll 4 = .ok (.iload_n 2, 1) := by decide +kernel
theorem dX7_wentOfAll_5 : decode cX7_wentOfAll 5 = .ok (.aload_n 0, 1) := by decide +kernel
theorem dX7_wentOfAll_6 : decode cX7_wentOfAll 6 = .ok (.getfield 77, 3) := by decide +kernel
theorem dX7_wentOfAll_9 : decode cX7_wentOfAll 9 = .ok (.if_icmp .ge 21, 3) := by decide +kernel
theorem dX7_wentOfAll_12 : decode cX7_wentOfAll 12 = .ok (.iload_n 1, 1) := by decide +kernel
theorem dX7_wentOfAll_13 : decode cX7_wentOfAll 13 = .ok (.aload_n 0, 1) := by decide +kernel
theorem dX7_wentOfAll_14 : decode cX7_wentOfAll 14 = .ok (.getfield 25, 3) := by decide +kernel
theorem dX7_wentOfAll_17 : decode cX7_wentOfAll 17 = .ok (.bipush 33, 2) := by decide +kernel
theorem dX7_wentOfAll_19 : decode cX7_wentOfAll 19 = .ok (.iload_n 2, 1) := by decide +kernel
theorem dX7_wentOfAll_20 : decode cX7_wentOfAll 20 = .ok (.iadd, 1) := by decide +kernel
theorem dX7_wentOfAll_21 : decode cX7_wentOfAll 21 = .ok (.iaload, 1) := by decide +kernel
theorem dX7_wentOfAll_22 : decode cX7_wentOfAll 22 = .ok (.iadd, 1) := by decide +kernel
theorem dX7_wentOfAll_23 : decode cX7_wentOfAll 23 = .ok (.istore_n 1, 1) := by decide +kernel
theorem dX7_wentOfAll_24 : decode cX7_wentOfAll 24 = .ok (.iinc 2 1, 3) := by decide +kernel
theorem dX7_wentOfAll_27 : decode cX7_wentOfAll 27 = .ok (.goto (-23), 3) := by decide +kernel
theorem dX7_wentOfAll_30 : decode cX7_wentOfAll 30 = .ok (.iload_n 1, 1) := by decide +kernel
theorem dX7_wentOfAll_31 : decode cX7_wentOfAll 31 = .ok (.ireturn, 1) := by decide +kernel
theorem dX7_share_0 : decode cX7_share 0 = .ok (.aload_n 0, 1) := by decide +kernel
theorem dX7_share_1 : decode cX7_share 1 = .ok (.iload_n 1, 1) := by decide +kernel
theorem dX7_share_2 : decode cX7_share 2 = .ok (.invokevirtual 189, 3) := by decide +kernel
theorem dX7_share_5 : decode cX7_share 5 = .ok (.ifCond .eq 14, 3) := by decide +kernel
theorem dX7_share_8 : decode cX7_share 8 = .ok (.iload_n 2, 1) := by decide +kernel
theorem dX7_share_9 : decode cX7_share 9 = .ok (.iconst 0, 1) := by decide +kernel
theorem dX7_share_10 : decode cX7_share 10 = .ok (.sipush 999, 3) := by decide +kernel
theorem dX7_share_13 : decode cX7_share 13 = .ok (.invokestatic 70, 3) := by decide +kernel
theorem dX7_share_16 : decode cX7_share 16 = .ok (.ifCond .ne 6, 3) := by decide +kernel
theorem dX7_share_19 : decode cX7_share 19 = .ok (.ldc 84, 2) := by decide +kernel
theorem dX7_share_21 : decode cX7_share 21 = .ok (.ireturn, 1) := by decide +kernel
theorem dX7_share_22 : decode cX7_share 22 = .ok (.aload_n 0, 1) := by decide +kernel
theorem dX7_share_23 : decode cX7_share 23 = .ok (.invokevirtual 226, 3) := by decide +kernel
theorem dX7_share_26 : decode cX7_share 26 = .ok (.istore_n 3, 1) := by decide +kernel
theorem dX7_share_27 : decode cX7_share 27 = .ok (.iload_n 3, 1) := by decide +kernel
theorem dX7_share_28 : decode cX7_share 28 = .ok (.ifCond .ne 5, 3) := by decide +kernel
theorem dX7_share_31 : decode cX7_share 31 = .ok (.iconst 0, 1) := by decide +kernel
theorem dX7_share_32 : decode cX7_share 32 = .ok (.ireturn, 1) := by decide +kernel
theorem dX7_share_33 : decode cX7_share 33 = .ok (.iload_n 2, 1) := by decide +kernel
theorem dX7_share_34 : decode cX7_share 34 = .ok (.istore 4, 2) := by decide +kernel
theorem dX7_share_36 : decode cX7_share 36 = .ok (.iconst 0, 1) := by decide +kernel
theorem dX7_share_37 : decode cX7_share 37 = .ok (.istore 5, 2) := by decide +kernel
theorem dX7_share_39 : decode cX7_share 39 = .ok (.iconst 0, 1) := by decide +kernel
theorem dX7_share_40 : decode cX7_share 40 = .ok (.istore 6, 2) := by decide +kernel
theorem dX7_share_42 : decode cX7_share 42 = .ok (.iload 6, 2) := by decide +kernel
theorem dX7_share_44 : decode cX7_share 44 = .ok (.aload_n 0, 1) := by decide +kernel
theorem dX7_share_45 : decode cX7_share 45 = .ok (.getfield 77, 3) := by decide +kernel
theorem dX7_share_48 : decode cX7_share 48 = .ok (.if_icmp .ge 57, 3) := by decide +kernel
theorem dX7_share_51 : decode cX7_share 51 = .ok (.iload 4, 2) := by decide +kernel
theorem dX7_share_53 : decode cX7_share 53 = .ok (.iload_n 2, 1) := by decide +kernel
theorem dX7_share_54 : decode cX7_share 54 = .ok (.aload_n 0, 1) := by decide +kernel
theorem dX7_share_55 : decode cX7_share 55 = .ok (.getfield 25, 3) := by decide +kernel
theorem dX7_share_58 : decode cX7_share 58 = .ok (.bipush 33, 2) := by decide +kernel
theorem dX7_share_60 : decode cX7_share 60 = .ok (.iload 6, 2) := by decide +kernel
theorem dX7_share_62 : decode cX7_share 62 = .ok (.iadd, 1) := by decide +kernel
theorem dX7_share_63 : decode cX7_share 63 = .ok (.iaload, 1) := by decide +kernel
theorem dX7_share_64 : decode cX7_share 64 = .ok (.imul, 1) := by decide +kernel
theorem dX7_share_65 : decode cX7_share 65 = .ok (.iload_n 3, 1) := by decide +kernel
theorem dX7_share_66 : decode cX7_share 66 = .ok (.idiv, 1) := by decide +kernel
theorem dX7_share_67 : decode cX7_share 67 = .ok (.isub, 1) := by decide +kernel
theorem dX7_share_68 : decode cX7_share 68 = .ok (.istore 4, 2) := by decide +kernel
theorem dX7_share_70 : decode cX7_share 70 = .ok (.iload 5, 2) := by decide +kernel
theorem dX7_share_72 : decode cX7_share 72 = .ok (.iload 6, 2) := by decide +kernel
theorem dX7_share_74 : decode cX7_share 74 = .ok (.iload_n 1, 1) := by decide +kernel
theorem dX7_share_75 : decode cX7_share 75 = .ok (.if_icmp .ge 20, 3) := by decide +kernel
theorem dX7_share_78 : decode cX7_share 78 = .ok (.aload_n 0, 1) := by decide +kernel
theorem dX7_share_79 : decode cX7_share 79 = .ok (.getfield 25, 3) := by decide +kernel
theorem dX7_share_82 : decode cX7_share 82 = .ok (.bipush 33, 2) := by decide +kernel
theorem dX7_share_84 : decode cX7_share 84 = .ok (.iload 6, 2) := by decide +kernel
theorem dX7_share_86 : decode cX7_share 86 = .ok (.iadd, 1) := by decide +kernel
theorem dX7_share_87 : decode cX7_share 87 = .ok (.iaload, 1) := by decide +kernel
theorem dX7_share_88 : decode cX7_share 88 = .ok (.ifCond .le 7, 3) := by decide +kernel
theorem dX7_share_91 : decode cX7_share 91 = .ok (.iconst 1, 1) := by decide +kernel
theorem dX7_share_92 : decode cX7_share 92 = .ok (.goto 4, 3) := by decide +kernel
theorem dX7_share_95 : decode cX7_share 95 = .ok (.iconst 0, 1) := by decide +kernel
theorem dX7_share_96 : decode cX7_share 96 = .ok (.iadd, 1) := by decide +kernel
theorem dX7_share_97 : decode cX7_share 97 = .ok (.istore 5, 2) := by decide +kernel
theorem dX7_share_99 : decode cX7_share 99 = .ok (.iinc 6 1, 3) := by decide +kernel
theorem dX7_share_102 : decode cX7_share 102 = .ok (.goto (-60), 3) := by decide +kernel
theorem dX7_share_105 : decode cX7_share 105 = .ok (.iload_n 2, 1) := by decide +kernel
theorem dX7_share_106 : decode cX7_share 106 = .ok (.aload_n 0, 1) := by decide +kernel
theorem dX7_share_107 : decode cX7_share 107 = .ok (.getfield 25, 3) := by decide +kernel
theorem dX7_share_110 : decode cX7_share 110 = .ok (.bipush 33, 2) := by decide +kernel
theorem dX7_share_112 : decode cX7_share 112 = .ok (.iload_n 1, 1) := by decide +kernel
theorem dX7_share_113 : decode cX7_share 113 = .ok (.iadd, 1) := by decide +kernel
theorem dX7_share_114 : decode cX7_share 114 = .ok (.iaload, 1) := by decide +kernel
theorem dX7_share_115 : decode cX7_share 115 = .ok (.imul, 1) := by decide +kernel
theorem dX7_share_116 : decode cX7_share 116 = .ok (.iload_n 3, 1) := by decide +kernel
theorem dX7_share_117 : decode cX7_share 117 = .ok (.idiv, 1) := by decide +kernel
theorem dX7_share_118 : decode cX7_share 118 = .ok (.aload_n 0, 1) := by decide +kernel
theorem dX7_share_119 : decode cX7_share 119 = .ok (.getfield 25, 3) := by decide +kernel
theorem dX7_share_122 : decode cX7_share 122 = .ok (.bipush 33, 2) := by decide +kernel
theorem dX7_share_124 : decode cX7_share 124 = .ok (.iload_n 1, 1) := by decide +kernel
theorem dX7_share_125 : decode cX7_share 125 = .ok (.iadd, 1) := by decide +kernel
theorem dX7_share_126 : decode cX7_share 126 = .ok (.iaload, 1) := by decide +kernel
theorem dX7_share_127 : decode cX7_share 127 = .ok (.ifCond .le 14, 3) := by decide +kernel
theorem dX7_share_130 : decode cX7_share 130 = .ok (.iload 5, 2) := by decide +kernel
theorem dX7_share_132 : decode cX7_share 132 = .ok (.iload 4, 2) := by decide +kernel
theorem dX7_share_134 : decode cX7_share 134 = .ok (.if_icmp .ge 7, 3) := by decide +kernel
theorem dX7_share_137 : decode cX7_share 137 = .ok (.iconst 1, 1) := by decide +kernel
theorem dX7_share_138 : decode cX7_share 138 = .ok (.goto 4, 3) := by decide +kernel
theorem dX7_share_141 : decode cX7_share 141 = .ok (.iconst 0, 1) := by decide +kernel
theorem dX7_share_142 : decode cX7_share 142 = .ok (.iadd, 1) := by decide +kernel
theorem dX7_share_143 : decode cX7_share 143 = .ok (.ireturn, 1) := by decide +kernel
theorem dX7_chosen_0 : decode cX7_chosen 0 = .ok (.aload_n 0, 1) := by decide +kernel
theorem dX7_chosen_1 : decode cX7_chosen 1 = .ok (.getfield 56, 3) := by decide +kernel
theorem dX7_chosen_4 : decode cX7_chosen 4 = .ok (.iload_n 1, 1) := by decide +kernel
theorem dX7_chosen_5 : decode cX7_chosen 5 = .ok (.iaload, 1) := by decide +kernel
theorem dX7_chosen_6 : decode cX7_chosen 6 = .ok (.istore_n 3, 1) := by decide +kernel
theorem dX7_chosen_7 : decode cX7_chosen 7 = .ok (.iconst 0, 1) := by decide +kernel
theorem dX7_chosen_8 : decode cX7_chosen 8 = .ok (.istore 4, 2) := by decide +kernel
theorem dX7_chosen_10 : decode cX7_chosen 10 = .ok (.iload 4, 2) := by decide +kernel
theorem dX7_chosen_12 : decode cX7_chosen 12 = .ok (.aload_n 0, 1) := by decide +kernel
theorem dX7_chosen_13 : decode cX7_chosen 13 = .ok (.getfield 77, 3) := by decide +kernel
theorem dX7_chosen_16 : decode cX7_chosen 16 = .ok (.if_icmp .ge 44, 3) := by decide +kernel
theorem dX7_chosen_19 : decode cX7_chosen 19 = .ok (.aload_n 0, 1) := by decide +kernel
theorem dX7_chosen_20 : decode cX7_chosen 20 = .ok (.getfield 56, 3) := by decide +kernel
theorem dX7_chosen_23 : decode cX7_chosen 23 = .ok (.iload_n 1, 1) := by decide +kernel
theorem dX7_chosen_24 : decode cX7_chosen 24 = .ok (.iconst 1, 1) := by decide +kernel
theorem dX7_chosen_25 : decode cX7_chosen 25 = .ok (.iload 4, 2) := by decide +kernel
theorem dX7_chosen_27 : decode cX7_chosen 27 = .ok (.ishl, 1) := by decide +kernel
theorem dX7_chosen_28 : decode cX7_chosen 28 = .ok (.ixor, 1) := by decide +kernel
theorem dX7_chosen_29 : decode cX7_chosen 29 = .ok (.iaload, 1) := by decide +kernel
theorem dX7_chosen_30 : decode cX7_chosen 30 = .ok (.istore 5, 2) := by decide +kernel
theorem dX7_chosen_32 : decode cX7_chosen 32 = .ok (.iload_n 2, 1) := by decide +kernel
theorem dX7_chosen_33 : decode cX7_chosen 33 = .ok (.iload 5, 2) := by decide +kernel
theorem dX7_chosen_35 : decode cX7_chosen 35 = .ok (.iload_n 3, 1) := by decide +kernel
theorem dX7_chosen_36 : decode cX7_chosen 36 = .ok (.if_icmp .le 7, 3) := by decide +kernel
theorem dX7_chosen_39 : decode cX7_chosen 39 = .ok (.iconst 1, 1) := by decide +kernel
theorem dX7_chosen_40 : decode cX7_chosen 40 = .ok (.goto 4, 3) := by decide +kernel
theorem dX7_chosen_43 : decode cX7_chosen 43 = .ok (.iconst 0, 1) := by decide +kernel
theorem dX7_chosen_44 : decode cX7_chosen 44 = .ok (.if_icmp .ne 8, 3) := by decide +kernel
theorem dX7_chosen_47 : decode cX7_chosen 47 = .ok (.iload 5, 2) := by decide +kernel
theorem dX7_chosen_49 : decode cX7_chosen 49 = .ok (.goto 4, 3) := by decide +kernel
theorem dX7_chosen_52 : decode cX7_chosen 52 = .ok (.iload_n 3, 1) := by decide +kernel
theorem dX7_chosen_53 : decode cX7_chosen 53 = .ok (.istore_n 3, 1) := by decide +kernel
theorem dX7_chosen_54 : decode cX7_chosen 54 = .ok (.iinc 4 1, 3) := by decide +kernel
theorem dX7_chosen_57 : decode cX7_chosen 57 = .ok (.goto (-47), 3) := by decide +kernel
theorem dX7_chosen_60 : decode cX7_chosen 60 = .ok (.iload_n 3, 1) := by decide +kernel
theorem dX7_chosen_61 : decode cX7_chosen 61 = .ok (.ireturn, 1) := by decide +kernel
theorem dX7_byTurns_0 : decode cX7_byTurns 0 = .ok (.aload_n 0, 1) := by decide +kernel
theorem dX7_byTurns_1 : decode cX7_byTurns 1 = .ok (.invokevirtual 174, 3) := by decide +kernel
theorem dX7_byTurns_4 : decode cX7_byTurns 4 = .ok (.ifCond .eq 6, 3) := by decide +kernel
theorem dX7_byTurns_7 : decode cX7_byTurns 7 = .ok (.ldc 173, 2) := by decide +kernel
theorem dX7_byTurns_9 : decode cX7_byTurns 9 = .ok (.ireturn, 1) := by decide +kernel
theorem dX7_byTurns_10 : decode cX7_byTurns 10 = .ok (.iload_n 1, 1) := by decide +kernel
theorem dX7_byTurns_11 : decode cX7_byTurns 11 = .ok (.iconst 0, 1) := by decide +kernel
theorem dX7_byTurns_12 : decode cX7_byTurns 12 = .ok (.iconst 4, 1) := by decide +kernel
theorem dX7_byTurns_13 : decode cX7_byTurns 13 = .ok (.invokestatic 70, 3) := by decide +kernel
theorem dX7_byTurns_16 : decode cX7_byTurns 16 = .ok (.ifCond .eq 13, 3) := by decide +kernel
theorem dX7_byTurns_19 : decode cX7_byTurns 19 = .ok (.iload_n 2, 1) := by decide +kernel
theorem dX7_byTurns_20 : decode cX7_byTurns 20 = .ok (.iconst 1, 1) := by decide +kernel
theorem dX7_byTurns_21 : decode cX7_byTurns 21 = .ok (.bipush 20, 2) := by decide +kernel
theorem dX7_byTurns_23 : decode cX7_byTurns 23 = .ok (.invokestatic 70, 3) := by decide +kernel
theorem dX7_byTurns_26 : decode cX7_byTurns 26 = .ok (.ifCond .ne 6, 3) := by decide +kernel
theorem dX7_byTurns_29 : decode cX7_byTurns 29 = .ok (.ldc 84, 2) := by decide +kernel
theorem dX7_byTurns_31 : decode cX7_byTurns 31 = .ok (.ireturn, 1) := by decide +kernel
theorem dX7_byTurns_32 : decode cX7_byTurns 32 = .ok (.iconst 0, 1) := by decide +kernel
theorem dX7_byTurns_33 : decode cX7_byTurns 33 = .ok (.istore_n 3, 1) := by decide +kernel
theorem dX7_byTurns_34 : decode cX7_byTurns 34 = .ok (.iload_n 3, 1) := by decide +kernel
theorem dX7_byTurns_35 : decode cX7_byTurns 35 = .ok (.iconst 1, 1) := by decide +kernel
theorem dX7_byTurns_36 : decode cX7_byTurns 36 = .ok (.aload_n 0, 1) := by decide +kernel
theorem dX7_byTurns_37 : decode cX7_byTurns 37 = .ok (.getfield 77, 3) := by decide +kernel
theorem dX7_byTurns_40 : decode cX7_byTurns 40 = .ok (.ishl, 1) := by decide +kernel
theorem dX7_byTurns_41 : decode cX7_byTurns 41 = .ok (.if_icmp .ge 44, 3) := by decide +kernel
theorem dX7_byTurns_44 : decode cX7_byTurns 44 = .ok (.aload_n 0, 1) := by decide +kernel
theorem dX7_byTurns_45 : decode cX7_byTurns 45 = .ok (.invokevirtual 202, 3) := by decide +kernel
theorem dX7_byTurns_48 : decode cX7_byTurns 48 = .ok (.aload_n 0, 1) := by decide +kernel
theorem dX7_byTurns_49 : decode cX7_byTurns 49 = .ok (.iload_n 3, 1) := by decide +kernel
theorem dX7_byTurns_50 : decode cX7_byTurns 50 = .ok (.invokevirtual 214, 3) := by decide +kernel
theorem dX7_byTurns_53 : decode cX7_byTurns 53 = .ok (.aload_n 0, 1) := by decide +kernel
theorem dX7_byTurns_54 : decode cX7_byTurns 54 = .ok (.iload_n 2, 1) := by decide +kernel
theorem dX7_byTurns_55 : decode cX7_byTurns 55 = .ok (.invokevirtual 205, 3) := by decide +kernel
theorem dX7_byTurns_58 : decode cX7_byTurns 58 = .ok (.aload_n 0, 1) := by decide +kernel
theorem dX7_byTurns_59 : decode cX7_byTurns 59 = .ok (.getfield 56, 3) := by decide +kernel
theorem dX7_byTurns_62 : decode cX7_byTurns 62 = .ok (.iload_n 3, 1) := by decide +kernel
theorem dX7_byTurns_63 : decode cX7_byTurns 63 = .ok (.aload_n 0, 1) := by decide +kernel
theorem dX7_byTurns_64 : decode cX7_byTurns 64 = .ok (.invokevirtual 211, 3) := by decide +kernel
theorem dX7_byTurns_67 : decode cX7_byTurns 67 = .ok (.invokestatic 217, 3) := by decide +kernel
theorem dX7_byTurns_70 : decode cX7_byTurns 70 = .ok (.aload_n 0, 1) := by decide +kernel
theorem dX7_byTurns_71 : decode cX7_byTurns 71 = .ok (.invokevirtual 208, 3) := by decide +kernel
theorem dX7_byTurns_74 : decode cX7_byTurns 74 = .ok (.invokestatic 217, 3) := by decide +kernel
theorem dX7_byTurns_77 : decode cX7_byTurns 77 = .ok (.isub, 1) := by decide +kernel
theorem dX7_byTurns_78 : decode cX7_byTurns 78 = .ok (.iastore, 1) := by decide +kernel
theorem dX7_byTurns_79 : decode cX7_byTurns 79 = .ok (.iinc 3 1, 3) := by decide +kernel
theorem dX7_byTurns_82 : decode cX7_byTurns 82 = .ok (.goto (-48), 3) := by decide +kernel
theorem dX7_byTurns_85 : decode cX7_byTurns 85 = .ok (.iload_n 1, 1) := by decide +kernel
theorem dX7_byTurns_86 : decode cX7_byTurns 86 = .ok (.iconst 1, 1) := by decide +kernel
theorem dX7_byTurns_87 : decode cX7_byTurns 87 = .ok (.isub, 1) := by decide +kernel
theorem dX7_byTurns_88 : decode cX7_byTurns 88 = .ok (.istore_n 3, 1) := by decide +kernel
theorem dX7_byTurns_89 : decode cX7_byTurns 89 = .ok (.iload_n 3, 1) := by decide +kernel
theorem dX7_byTurns_90 : decode cX7_byTurns 90 = .ok (.ifCond .lt 69, 3) := by decide +kernel
theorem dX7_byTurns_93 : decode cX7_byTurns 93 = .ok (.iconst 0, 1) := by decide +kernel
theorem dX7_byTurns_94 : decode cX7_byTurns 94 = .ok (.istore 4, 2) := by decide +kernel
theorem dX7_byTurns_96 : decode cX7_byTurns 96 = .ok (.iload 4, 2) := by decide +kernel
theorem dX7_byTurns_98 : decode cX7_byTurns 98 = .ok (.iconst 1, 1) := by decide +kernel
theorem dX7_byTurns_99 : decode cX7_byTurns 99 = .ok (.aload_n 0, 1) := by decide +kernel
theorem dX7_byTurns_100 : decode cX7_byTurns 100 = .ok (.getfield 77, 3) := by decide +kernel
theorem dX7_byTurns_103 : decode cX7_byTurns 103 = .ok (.ishl, 1) := by decide +kernel
theorem dX7_byTurns_104 : decode cX7_byTurns 104 = .ok (.if_icmp .ge 33, 3) := by decide +kernel
theorem dX7_byTurns_107 : decode cX7_byTurns 107 = .ok (.aload_n 0, 1) := by decide +kernel
theorem dX7_byTurns_108 : decode cX7_byTurns 108 = .ok (.getfield 59, 3) := by decide +kernel
theorem dX7_byTurns_111 : decode cX7_byTurns 111 = .ok (.iload 4, 2) := by decide +kernel
theorem dX7_byTurns_113 : decode cX7_byTurns 113 = .ok (.aload_n 0, 1) := by decide +kernel
theorem dX7_byTurns_114 : decode cX7_byTurns 114 = .ok (.iload 4, 2) := by decide +kernel
theorem dX7_byTurns_116 : decode cX7_byTurns 116 = .ok (.iload_n 3, 1) := by decide +kernel
theorem dX7_byTurns_117 : decode cX7_byTurns 117 = .ok (.iconst 2, 1) := by decide +kernel
theorem dX7_byTurns_118 : decode cX7_byTurns 118 = .ok (.irem, 1) := by decide +kernel
theorem dX7_byTurns_119 : decode cX7_byTurns 119 = .ok (.ifCond .ne 7, 3) := by decide +kernel
theorem dX7_byTurns_122 : decode cX7_byTurns 122 = .ok (.iconst 1, 1) := by decide +kernel
theorem dX7_byTurns_123 : decode cX7_byTurns 123 = .ok (.goto 4, 3) := by decide +kernel
theorem dX7_byTurns_126 : decode cX7_byTurns 126 = .ok (.iconst 0, 1) := by decide +kernel
theorem dX7_byTurns_127 : decode cX7_byTurns 127 = .ok (.invokevirtual 229, 3) := by decide +kernel
theorem dX7_byTurns_130 : decode cX7_byTurns 130 = .ok (.iastore, 1) := by decide +kernel
theorem dX7_byTurns_131 : decode cX7_byTurns 131 = .ok (.iinc 4 1, 3) := by decide +kernel
theorem dX7_byTurns_134 : decode cX7_byTurns 134 = .ok (.goto (-38), 3) := by decide +kernel
theorem dX7_byTurns_137 : decode cX7_byTurns 137 = .ok (.aload_n 0, 1) := by decide +kernel
theorem dX7_byTurns_138 : decode cX7_byTurns 138 = .ok (.getfield 59, 3) := by decide +kernel
theorem dX7_byTurns_141 : decode cX7_byTurns 141 = .ok (.iconst 0, 1) := by decide +kernel
theorem dX7_byTurns_142 : decode cX7_byTurns 142 = .ok (.aload_n 0, 1) := by decide +kernel
theorem dX7_byTurns_143 : decode cX7_byTurns 143 = .ok (.getfield 56, 3) := by decide +kernel
theorem dX7_byTurns_146 : decode cX7_byTurns 146 = .ok (.iconst 0, 1) := by decide +kernel
theorem dX7_byTurns_147 : decode cX7_byTurns 147 = .ok (.sipush 256, 3) := by decide +kernel
theorem dX7_byTurns_150 : decode cX7_byTurns 150 = .ok (.invokestatic 155, 3) := by decide +kernel
theorem dX7_byTurns_153 : decode cX7_byTurns 153 = .ok (.iinc 3 (-1), 3) := by decide +kernel
theorem dX7_byTurns_156 : decode cX7_byTurns 156 = .ok (.goto (-67), 3) := by decide +kernel
theorem dX7_byTurns_159 : decode cX7_byTurns 159 = .ok (.aload_n 0, 1) := by decide +kernel
theorem dX7_byTurns_160 : decode cX7_byTurns 160 = .ok (.getfield 56, 3) := by decide +kernel
theorem dX7_byTurns_163 : decode cX7_byTurns 163 = .ok (.iconst 0, 1) := by decide +kernel
theorem dX7_byTurns_164 : decode cX7_byTurns 164 = .ok (.iaload, 1) := by decide +kernel
theorem dX7_byTurns_165 : decode cX7_byTurns 165 = .ok (.ireturn, 1) := by decide +kernel
theorem dX7_isSo_0 : decode cX7_isSo 0 = .ok (.iconst 1, 1) := by decide +kernel
theorem dX7_isSo_1 : decode cX7_isSo 1 = .ok (.istore_n 3, 1) := by decide +kernel
theorem dX7_isSo_2 : decode cX7_isSo 2 = .ok (.iconst 0, 1) := by decide +kernel
theorem dX7_isSo_3 : decode cX7_isSo 3 = .ok (.istore 4, 2) := by decide +kernel
theorem dX7_isSo_5 : decode cX7_isSo 5 = .ok (.iload 4, 2) := by decide +kernel
theorem dX7_isSo_7 : decode cX7_isSo 7 = .ok (.iload_n 2, 1) := by decide +kernel
theorem dX7_isSo_8 : decode cX7_isSo 8 = .ok (.if_icmp .ge 54, 3) := by decide +kernel
theorem dX7_isSo_11 : decode cX7_isSo 11 = .ok (.aload_n 0, 1) := by decide +kernel
theorem dX7_isSo_12 : decode cX7_isSo 12 = .ok (.iconst 1, 1) := by decide +kernel
theorem dX7_isSo_13 : decode cX7_isSo 13 = .ok (.invokevirtual 205, 3) := by decide +kernel
theorem dX7_isSo_16 : decode cX7_isSo 16 = .ok (.iload_n 3, 1) := by decide +kernel
theorem dX7_isSo_17 : decode cX7_isSo 17 = .ok (.ifCond .eq 37, 3) := by decide +kernel
theorem dX7_isSo_20 : decode cX7_isSo 20 = .ok (.aload_n 0, 1) := by decide +kernel
theorem dX7_isSo_21 : decode cX7_isSo 21 = .ok (.invokevirtual 208, 3) := by decide +kernel
theorem dX7_isSo_24 : decode cX7_isSo 24 = .ok (.invokestatic 217, 3) := by decide +kernel
theorem dX7_isSo_27 : decode cX7_isSo 27 = .ok (.bipush 10, 2) := by decide +kernel
theorem dX7_isSo_29 : decode cX7_isSo 29 = .ok (.aload_n 0, 1) := by decide +kernel
theorem dX7_isSo_30 : decode cX7_isSo 30 = .ok (.invokevirtual 211, 3) := by decide +kernel
theorem dX7_isSo_33 : decode cX7_isSo 33 = .ok (.invokestatic 217, 3) := by decide +kernel
theorem dX7_isSo_36 : decode cX7_isSo 36 = .ok (.imul, 1) := by decide +kernel
theorem dX7_isSo_37 : decode cX7_isSo 37 = .ok (.iadd, 1) := by decide +kernel
theorem dX7_isSo_38 : decode cX7_isSo 38 = .ok (.aload_n 0, 1) := by decide +kernel
theorem dX7_isSo_39 : decode cX7_isSo 39 = .ok (.getfield 16, 3) := by decide +kernel
theorem dX7_isSo_42 : decode cX7_isSo 42 = .ok (.iload_n 1, 1) := by decide +kernel
theorem dX7_isSo_43 : decode cX7_isSo 43 = .ok (.iload 4, 2) := by decide +kernel
theorem dX7_isSo_45 : decode cX7_isSo 45 = .ok (.iadd, 1) := by decide +kernel
theorem dX7_isSo_46 : decode cX7_isSo 46 = .ok (.iaload, 1) := by decide +kernel
theorem dX7_isSo_47 : decode cX7_isSo 47 = .ok (.if_icmp .ne 7, 3) := by decide +kernel
theorem dX7_isSo_50 : decode cX7_isSo 50 = .ok (.iconst 1, 1) := by decide +kernel
theorem dX7_isSo_51 : decode cX7_isSo 51 = .ok (.goto 4, 3) := by decide +kernel
theorem dX7_isSo_54 : decode cX7_isSo 54 = .ok (.iconst 0, 1) := by decide +kernel
theorem dX7_isSo_55 : decode cX7_isSo 55 = .ok (.istore_n 3, 1) := by decide +kernel
theorem dX7_isSo_56 : decode cX7_isSo 56 = .ok (.iinc 4 1, 3) := by decide +kernel
theorem dX7_isSo_59 : decode cX7_isSo 59 = .ok (.goto (-54), 3) := by decide +kernel
theorem dX7_isSo_62 : decode cX7_isSo 62 = .ok (.iload_n 3, 1) := by decide +kernel
theorem dX7_isSo_63 : decode cX7_isSo 63 = .ok (.ireturn, 1) := by decide +kernel
theorem dX7_refuses_0 : decode cX7_refuses 0 = .ok (.aload_n 0, 1) := by decide +kernel
theorem dX7_refuses_1 : decode cX7_refuses 1 = .ok (.getfield 13, 3) := by decide +kernel
theorem dX7_refuses_4 : decode cX7_refuses 4 = .ok (.iload_n 1, 1) := by decide +kernel
theorem dX7_refuses_5 : decode cX7_refuses 5 = .ok (.iaload, 1) := by decide +kernel
theorem dX7_refuses_6 : decode cX7_refuses 6 = .ok (.ifCond .ge 9, 3) := by decide +kernel
theorem dX7_refuses_9 : decode cX7_refuses 9 = .ok (.aload_n 0, 1) := by decide +kernel
theorem dX7_refuses_10 : decode cX7_refuses 10 = .ok (.iconst 1, 1) := by decide +kernel
theorem dX7_refuses_11 : decode cX7_refuses 11 = .ok (.invokevirtual 85, 3) := by decide +kernel
theorem dX7_refuses_14 : decode cX7_refuses 14 = .ok (.ireturn, 1) := by decide +kernel
theorem dX7_refuses_15 : decode cX7_refuses 15 = .ok (.iload_n 2, 1) := by decide +kernel
theorem dX7_refuses_16 : decode cX7_refuses 16 = .ok (.iload_n 3, 1) := by decide +kernel
theorem dX7_refuses_17 : decode cX7_refuses 17 = .ok (.aload_n 0, 1) := by decide +kernel
theorem dX7_refuses_18 : decode cX7_refuses 18 = .ok (.getfield 13, 3) := by decide +kernel
theorem dX7_refuses_21 : decode cX7_refuses 21 = .ok (.iload_n 1, 1) := by decide +kernel
theorem dX7_refuses_22 : decode cX7_refuses 22 = .ok (.iaload, 1) := by decide +kernel
theorem dX7_refuses_23 : decode cX7_refuses 23 = .ok (.invokestatic 93, 3) := by decide +kernel
theorem dX7_refuses_26 : decode cX7_refuses 26 = .ok (.ifCond .ne 9, 3) := by decide +kernel
theorem dX7_refuses_29 : decode cX7_refuses 29 = .ok (.aload_n 0, 1) := by decide +kernel
theorem dX7_refuses_30 : decode cX7_refuses 30 = .ok (.iconst 2, 1) := by decide +kernel
theorem dX7_refuses_31 : decode cX7_refuses 31 = .ok (.invokevirtual 85, 3) := by decide +kernel
theorem dX7_refuses_34 : decode cX7_refuses 34 = .ok (.ireturn, 1) := by decide +kernel
theorem dX7_refuses_35 : decode cX7_refuses 35 = .ok (.aload_n 0, 1) := by decide +kernel
theorem dX7_refuses_36 : decode cX7_refuses 36 = .ok (.iconst 0, 1) := by decide +kernel
theorem dX7_refuses_37 : decode cX7_refuses 37 = .ok (.putfield 65, 3) := by decide +kernel
theorem dX7_refuses_40 : decode cX7_refuses 40 = .ok (.iconst 0, 1) := by decide +kernel
theorem dX7_refuses_41 : decode cX7_refuses 41 = .ok (.ireturn, 1) := by decide +kernel
theorem dX7_who_0 : decode cX7_who 0 = .ok (.aload_n 0, 1) := by decide +kernel
theorem dX7_who_1 : decode cX7_who 1 = .ok (.iload_n 1, 1) := by decide +kernel
theorem dX7_who_2 : decode cX7_who 2 = .ok (.invokevirtual 189, 3) := by decide +kernel
theorem dX7_who_5 : decode cX7_who 5 = .ok (.ifCond .eq 31, 3) := by decide +kernel
theorem dX7_who_8 : decode cX7_who 8 = .ok (.iload_n 2, 1) := by decide +kernel
theorem dX7_who_9 : decode cX7_who 9 = .ok (.iconst 0, 1) := by decide +kernel
theorem dX7_who_10 : decode cX7_who 10 = .ok (.iconst 1, 1) := by decide +kernel
theorem dX7_who_11 : decode cX7_who 11 = .ok (.invokestatic 70, 3) := by decide +kernel
theorem dX7_who_14 : decode cX7_who 14 = .ok (.ifCond .eq 22, 3) := by decide +kernel
theorem dX7_who_17 : decode cX7_who 17 = .ok (.aload_n 0, 1) := by decide +kernel
theorem dX7_who_18 : decode cX7_who 18 = .ok (.iload_n 3, 1) := by decide +kernel
theorem dX7_who_19 : decode cX7_who 19 = .ok (.invokevirtual 80, 3) := by decide +kernel
theorem dX7_who_22 : decode cX7_who 22 = .ok (.ifCond .eq 14, 3) := by decide +kernel
theorem dX7_who_25 : decode cX7_who 25 = .ok (.iload 5, 2) := by decide +kernel
theorem dX7_who_27 : decode cX7_who 27 = .ok (.iconst 1, 1) := by decide +kernel
theorem dX7_who_28 : decode cX7_who 28 = .ok (.bipush 12, 2) := by decide +kernel
theorem dX7_who_30 : decode cX7_who 30 = .ok (.invokestatic 70, 3) := by decide +kernel
theorem dX7_who_33 : decode cX7_who 33 = .ok (.ifCond .ne 6, 3) := by decide +kernel
theorem dX7_who_36 : decode cX7_who 36 = .ok (.ldc 84, 2) := by decide +kernel
theorem dX7_who_38 : decode cX7_who 38 = .ok (.ireturn, 1) := by decide +kernel
theorem dX7_who_39 : decode cX7_who 39 = .ok (.aload_n 0, 1) := by decide +kernel
theorem dX7_who_40 : decode cX7_who 40 = .ok (.iload_n 3, 1) := by decide +kernel
theorem dX7_who_41 : decode cX7_who 41 = .ok (.iload 4, 2) := by decide +kernel
theorem dX7_who_43 : decode cX7_who 43 = .ok (.iload 5, 2) := by decide +kernel
theorem dX7_who_45 : decode cX7_who 45 = .ok (.invokevirtual 233, 3) := by decide +kernel
theorem dX7_who_48 : decode cX7_who 48 = .ok (.istore 6, 2) := by decide +kernel
theorem dX7_who_50 : decode cX7_who 50 = .ok (.iload 6, 2) := by decide +kernel
theorem dX7_who_52 : decode cX7_who 52 = .ok (.ifCond .eq 6, 3) := by decide +kernel
theorem dX7_who_55 : decode cX7_who 55 = .ok (.iload 6, 2) := by decide +kernel
theorem dX7_who_57 : decode cX7_who 57 = .ok (.ireturn, 1) := by decide +kernel
theorem dX7_who_58 : decode cX7_who 58 = .ok (.aload_n 0, 1) := by decide +kernel
theorem dX7_who_59 : decode cX7_who 59 = .ok (.getfield 22, 3) := by decide +kernel
theorem dX7_who_62 : decode cX7_who 62 = .ok (.iload_n 1, 1) := by decide +kernel
theorem dX7_who_63 : decode cX7_who 63 = .ok (.iaload, 1) := by decide +kernel
theorem dX7_who_64 : decode cX7_who 64 = .ok (.istore 7, 2) := by decide +kernel
theorem dX7_who_66 : decode cX7_who 66 = .ok (.iconst 0, 1) := by decide +kernel
theorem dX7_who_67 : decode cX7_who 67 = .ok (.istore 8, 2) := by decide +kernel
theorem dX7_who_69 : decode cX7_who 69 = .ok (.iload_n 2, 1) := by decide +kernel
theorem dX7_who_70 : decode cX7_who 70 = .ok (.ifCond .ne 7, 3) := by decide +kernel
theorem dX7_who_73 : decode cX7_who 73 = .ok (.iconst 1, 1) := by decide +kernel
theorem dX7_who_74 : decode cX7_who 74 = .ok (.goto 4, 3) := by decide +kernel
theorem dX7_who_77 : decode cX7_who 77 = .ok (.iconst 0, 1) := by decide +kernel
theorem dX7_who_78 : decode cX7_who 78 = .ok (.istore 9, 2) := by decide +kernel
theorem dX7_who_80 : decode cX7_who 80 = .ok (.iload 9, 2) := by decide +kernel
theorem dX7_who_82 : decode cX7_who 82 = .ok (.iload_n 2, 1) := by decide +kernel
theorem dX7_who_83 : decode cX7_who 83 = .ok (.ifCond .ne 7, 3) := by decide +kernel
theorem dX7_who_86 : decode cX7_who 86 = .ok (.iconst 5, 1) := by decide +kernel
theorem dX7_who_87 : decode cX7_who 87 = .ok (.goto 4, 3) := by decide +kernel
theorem dX7_who_90 : decode cX7_who 90 = .ok (.iconst 1, 1) := by decide +kernel
theorem dX7_who_91 : decode cX7_who 91 = .ok (.if_icmp .gt 67, 3) := by decide +kernel
theorem dX7_who_94 : decode cX7_who 94 = .ok (.aload_n 0, 1) := by decide +kernel
theorem dX7_who_95 : decode cX7_who 95 = .ok (.invokevirtual 202, 3) := by decide +kernel
theorem dX7_who_98 : decode cX7_who 98 = .ok (.iload_n 2, 1) := by decide +kernel
theorem dX7_who_99 : decode cX7_who 99 = .ok (.ifCond .ne 14, 3) := by decide +kernel
theorem dX7_who_102 : decode cX7_who 102 = .ok (.aload_n 0, 1) := by decide +kernel
theorem dX7_who_103 : decode cX7_who 103 = .ok (.getfield 22, 3) := by decide +kernel
theorem dX7_who_106 : decode cX7_who 106 = .ok (.iload_n 1, 1) := by decide +kernel
theorem dX7_who_107 : decode cX7_who 107 = .ok (.iload 9, 2) := by decide +kernel
theorem dX7_who_109 : decode cX7_who 109 = .ok (.iastore, 1) := by decide +kernel
theorem dX7_who_110 : decode cX7_who 110 = .ok (.goto 13, 3) := by decide +kernel
theorem dX7_who_113 : decode cX7_who 113 = .ok (.aload_n 0, 1) := by decide +kernel
theorem dX7_who_114 : decode cX7_who 114 = .ok (.getfield 41, 3) := by decide +kernel
theorem dX7_who_117 : decode cX7_who 117 = .ok (.iconst 1, 1) := by decide +kernel
theorem dX7_who_118 : decode cX7_who 118 = .ok (.iload_n 1, 1) := by decide +kernel
theorem dX7_who_119 : decode cX7_who 119 = .ok (.iadd, 1) := by decide +kernel
theorem dX7_who_120 : decode cX7_who 120 = .ok (.iload 9, 2) := by decide +kernel
theorem dX7_who_122 : decode cX7_who 122 = .ok (.iastore, 1) := by decide +kernel
theorem dX7_who_123 : decode cX7_who 123 = .ok (.iload 8, 2) := by decide +kernel
theorem dX7_who_125 : decode cX7_who 125 = .ok (.aload_n 0, 1) := by decide +kernel
theorem dX7_who_126 : decode cX7_who 126 = .ok (.bipush 40, 2) := by decide +kernel
theorem dX7_who_128 : decode cX7_who 128 = .ok (.iload_n 3, 1) := by decide +kernel
theorem dX7_who_129 : decode cX7_who 129 = .ok (.imul, 1) := by decide +kernel
theorem dX7_who_130 : decode cX7_who 130 = .ok (.iload 4, 2) := by decide +kernel
theorem dX7_who_132 : decode cX7_who 132 = .ok (.iadd, 1) := by decide +kernel
theorem dX7_who_133 : decode cX7_who 133 = .ok (.iload 5, 2) := by decide +kernel
theorem dX7_who_135 : decode cX7_who 135 = .ok (.invokevirtual 237, 3) := by decide +kernel
theorem dX7_who_138 : decode cX7_who 138 = .ok (.ifCond .eq 10, 3) := by decide +kernel
theorem dX7_who_141 : decode cX7_who 141 = .ok (.iconst 1, 1) := by decide +kernel
theorem dX7_who_142 : decode cX7_who 142 = .ok (.iload 9, 2) := by decide +kernel
theorem dX7_who_144 : decode cX7_who 144 = .ok (.ishl, 1) := by decide +kernel
theorem dX7_who_145 : decode cX7_who 145 = .ok (.goto 4, 3) := by decide +kernel
theorem dX7_who_148 : decode cX7_who 148 = .ok (.iconst 0, 1) := by decide +kernel
theorem dX7_who_149 : decode cX7_who 149 = .ok (.ior, 1) := by decide +kernel
theorem dX7_who_150 : decode cX7_who 150 = .ok (.istore 8, 2) := by decide +kernel
theorem dX7_who_152 : decode cX7_who 152 = .ok (.iinc 9 1, 3) := by decide +kernel
theorem dX7_who_155 : decode cX7_who 155 = .ok (.goto (-75), 3) := by decide +kernel
theorem dX7_who_158 : decode cX7_who 158 = .ok (.aload_n 0, 1) := by decide +kernel
theorem dX7_who_159 : decode cX7_who 159 = .ok (.getfield 22, 3) := by decide +kernel
theorem dX7_who_162 : decode cX7_who 162 = .ok (.iload_n 1, 1) := by decide +kernel
theorem dX7_who_163 : decode cX7_who 163 = .ok (.iload 7, 2) := by decide +kernel
theorem dX7_who_165 : decode cX7_who 165 = .ok (.iastore, 1) := by decide +kernel
theorem dX7_who_166 : decode cX7_who 166 = .ok (.iload 8, 2) := by decide +kernel
theorem dX7_who_168 : decode cX7_who 168 = .ok (.ireturn, 1) := by decide +kernel
theorem dX7_weights_0 : decode cX7_weights 0 = .ok (.aload_n 0, 1) := by decide +kernel
theorem dX7_weights_1 : decode cX7_weights 1 = .ok (.iload_n 1, 1) := by decide +kernel
theorem dX7_weights_2 : decode cX7_weights 2 = .ok (.invokevirtual 192, 3) := by decide +kernel
theorem dX7_weights_5 : decode cX7_weights 5 = .ok (.ifCond .eq 31, 3) := by decide +kernel
theorem dX7_weights_8 : decode cX7_weights 8 = .ok (.iload_n 2, 1) := by decide +kernel
theorem dX7_weights_9 : decode cX7_weights 9 = .ok (.iconst 0, 1) := by decide +kernel
theorem dX7_weights_10 : decode cX7_weights 10 = .ok (.iconst 1, 1) := by decide +kernel
theorem dX7_weights_11 : decode cX7_weights 11 = .ok (.invokestatic 70, 3) := by decide +kernel
theorem dX7_weights_14 : decode cX7_weights 14 = .ok (.ifCond .eq 22, 3) := by decide +kernel
theorem dX7_weights_17 : decode cX7_weights 17 = .ok (.aload_n 0, 1) := by decide +kernel
theorem dX7_weights_18 : decode cX7_weights 18 = .ok (.iload_n 3, 1) := by decide +kernel
theorem dX7_weights_19 : decode cX7_weights 19 = .ok (.invokevirtual 80, 3) := by decide +kernel
theorem dX7_weights_22 : decode cX7_weights 22 = .ok (.ifCond .eq 14, 3) := by decide +kernel
theorem dX7_weights_25 : decode cX7_weights 25 = .ok (.iload 5, 2) := by decide +kernel
theorem dX7_weights_27 : decode cX7_weights 27 = .ok (.iconst 1, 1) := by decide +kernel
theorem dX7_weights_28 : decode cX7_weights 28 = .ok (.bipush 12, 2) := by decide +kernel
theorem dX7_weights_30 : decode cX7_weights 30 = .ok (.invokestatic 70, 3) := by decide +kernel
theorem dX7_weights_33 : decode cX7_weights 33 = .ok (.ifCond .ne 6, 3) := by decide +kernel
theorem dX7_weights_36 : decode cX7_weights 36 = .ok (.ldc 84, 2) := by decide +kernel
theorem dX7_weights_38 : decode cX7_weights 38 = .ok (.ireturn, 1) := by decide +kernel
theorem dX7_weights_39 : decode cX7_weights 39 = .ok (.aload_n 0, 1) := by decide +kernel
theorem dX7_weights_40 : decode cX7_weights 40 = .ok (.iload_n 3, 1) := by decide +kernel
theorem dX7_weights_41 : decode cX7_weights 41 = .ok (.iload 4, 2) := by decide +kernel
theorem dX7_weights_43 : decode cX7_weights 43 = .ok (.iload 5, 2) := by decide +kernel
theorem dX7_weights_45 : decode cX7_weights 45 = .ok (.invokevirtual 233, 3) := by decide +kernel
theorem dX7_weights_48 : decode cX7_weights 48 = .ok (.istore 6, 2) := by decide +kernel
theorem dX7_weights_50 : decode cX7_weights 50 = .ok (.iload 6, 2) := by decide +kernel
theorem dX7_weights_52 : decode cX7_weights 52 = .ok (.ifCond .eq 6, 3) := by decide +kernel
theorem dX7_weights_55 : decode cX7_weights 55 = .ok (.iload 6, 2) := by decide +kernel
theorem dX7_weights_57 : decode cX7_weights 57 = .ok (.ireturn, 1) := by decide +kernel
theorem dX7_weights_58 : decode cX7_weights 58 = .ok (.aload_n 0, 1) := by decide +kernel
theorem dX7_weights_59 : decode cX7_weights 59 = .ok (.getfield 152, 3) := by decide +kernel
theorem dX7_weights_62 : decode cX7_weights 62 = .ok (.istore 7, 2) := by decide +kernel
theorem dX7_weights_64 : decode cX7_weights 64 = .ok (.iconst 0, 1) := by decide +kernel
theorem dX7_weights_65 : decode cX7_weights 65 = .ok (.istore 8, 2) := by decide +kernel
theorem dX7_weights_67 : decode cX7_weights 67 = .ok (.iconst 1, 1) := by decide +kernel
theorem dX7_weights_68 : decode cX7_weights 68 = .ok (.istore 9, 2) := by decide +kernel
theorem dX7_weights_70 : decode cX7_weights 70 = .ok (.iload 9, 2) := by decide +kernel
theorem dX7_weights_72 : decode cX7_weights 72 = .ok (.bipush 10, 2) := by decide +kernel
theorem dX7_weights_74 : decode cX7_weights 74 = .ok (.if_icmp .ge 66, 3) := by decide +kernel
theorem dX7_weights_77 : decode cX7_weights 77 = .ok (.aload_n 0, 1) := by decide +kernel
theorem dX7_weights_78 : decode cX7_weights 78 = .ok (.invokevirtual 202, 3) := by decide +kernel
theorem dX7_weights_81 : decode cX7_weights 81 = .ok (.iload_n 2, 1) := by decide +kernel
theorem dX7_weights_82 : decode cX7_weights 82 = .ok (.ifCond .ne 17, 3) := by decide +kernel
theorem dX7_weights_85 : decode cX7_weights 85 = .ok (.aload_n 0, 1) := by decide +kernel
theorem dX7_weights_86 : decode cX7_weights 86 = .ok (.getfield 41, 3) := by decide +kernel
theorem dX7_weights_89 : decode cX7_weights 89 = .ok (.bipush 55, 2) := by decide +kernel
theorem dX7_weights_91 : decode cX7_weights 91 = .ok (.iload_n 1, 1) := by decide +kernel
theorem dX7_weights_92 : decode cX7_weights 92 = .ok (.iadd, 1) := by decide +kernel
theorem dX7_weights_93 : decode cX7_weights 93 = .ok (.iload 9, 2) := by decide +kernel
theorem dX7_weights_95 : decode cX7_weights 95 = .ok (.iastore, 1) := by decide +kernel
theorem dX7_weights_96 : decode cX7_weights 96 = .ok (.goto 9, 3) := by decide +kernel
theorem dX7_weights_99 : decode cX7_weights 99 = .ok (.aload_n 0, 1) := by decide +kernel
theorem dX7_weights_100 : decode cX7_weights 100 = .ok (.iload 9, 2) := by decide +kernel
theorem dX7_weights_102 : decode cX7_weights 102 = .ok (.putfield 152, 3) := by decide +kernel
theorem dX7_weights_105 : decode cX7_weights 105 = .ok (.iload 8, 2) := by decide +kernel
theorem dX7_weights_107 : decode cX7_weights 107 = .ok (.aload_n 0, 1) := by decide +kernel
theorem dX7_weights_108 : decode cX7_weights 108 = .ok (.bipush 40, 2) := by decide +kernel
theorem dX7_weights_110 : decode cX7_weights 110 = .ok (.iload_n 3, 1) := by decide +kernel
theorem dX7_weights_111 : decode cX7_weights 111 = .ok (.imul, 1) := by decide +kernel
theorem dX7_weights_112 : decode cX7_weights 112 = .ok (.iload 4, 2) := by decide +kernel
theorem dX7_weights_114 : decode cX7_weights 114 = .ok (.iadd, 1) := by decide +kernel
theorem dX7_weights_115 : decode cX7_weights 115 = .ok (.iload 5, 2) := by decide +kernel
theorem dX7_weights_117 : decode cX7_weights 117 = .ok (.invokevirtual 237, 3) := by decide +kernel
theorem dX7_weights_120 : decode cX7_weights 120 = .ok (.ifCond .eq 10, 3) := by decide +kernel
theorem dX7_weights_123 : decode cX7_weights 123 = .ok (.iconst 1, 1) := by decide +kernel
theorem dX7_weights_124 : decode cX7_weights 124 = .ok (.iload 9, 2) := by decide +kernel
theorem dX7_weights_126 : decode cX7_weights 126 = .ok (.ishl, 1) := by decide +kernel
theorem dX7_weights_127 : decode cX7_weights 127 = .ok (.goto 4, 3) := by decide +kernel
theorem dX7_weights_130 : decode cX7_weights 130 = .ok (.iconst 0, 1) := by decide +kernel
theorem dX7_weights_131 : decode cX7_weights 131 = .ok (.ior, 1) := by decide +kernel
theorem dX7_weights_132 : decode cX7_weights 132 = .ok (.istore 8, 2) := by decide +kernel
theorem dX7_weights_134 : decode cX7_weights 134 = .ok (.iinc 9 1, 3) := by decide +kernel
theorem dX7_weights_137 : decode cX7_weights 137 = .ok (.goto (-67), 3) := by decide +kernel
theorem dX7_weights_140 : decode cX7_weights 140 = .ok (.aload_n 0, 1) := by decide +kernel
theorem dX7_weights_141 : decode cX7_weights 141 = .ok (.iload 7, 2) := by decide +kernel
theorem dX7_weights_143 : decode cX7_weights 143 = .ok (.putfield 152, 3) := by decide +kernel
theorem dX7_weights_146 : decode cX7_weights 146 = .ok (.iload 8, 2) := by decide +kernel
theorem dX7_weights_148 : decode cX7_weights 148 = .ok (.ireturn, 1) := by decide +kernel
theorem dX7_common_0 : decode cX7_common 0 = .ok (.lload_n 0, 1) := by decide +kernel
theorem dX7_common_1 : decode cX7_common 1 = .ok (.lstore 4, 2) := by decide +kernel
theorem dX7_common_3 : decode cX7_common 3 = .ok (.lload_n 2, 1) := by decide +kernel
theorem dX7_common_4 : decode cX7_common 4 = .ok (.lstore 6, 2) := by decide +kernel
theorem dX7_common_6 : decode cX7_common 6 = .ok (.lload 6, 2) := by decide +kernel
theorem dX7_common_8 : decode cX7_common 8 = .ok (.lconst 0, 1) := by decide +kernel
theorem dX7_common_9 : decode cX7_common 9 = .ok (.lcmp, 1) := by decide +kernel
theorem dX7_common_10 : decode cX7_common 10 = .ok (.ifCond .eq 21, 3) := by decide +kernel
theorem dX7_common_13 : decode cX7_common 13 = .ok (.lload 4, 2) := by decide +kernel
theorem dX7_common_15 : decode cX7_common 15 = .ok (.lload 6, 2) := by decide +kernel
theorem dX7_common_17 : decode cX7_common 17 = .ok (.lrem, 1) := by decide +kernel
theorem dX7_common_18 : decode cX7_common 18 = .ok (.lstore 8, 2) := by decide +kernel
theorem dX7_common_20 : decode cX7_common 20 = .ok (.lload 6, 2) := by decide +kernel
theorem dX7_common_22 : decode cX7_common 22 = .ok (.lstore 4, 2) := by decide +kernel
theorem dX7_common_24 : decode cX7_common 24 = .ok (.lload 8, 2) := by decide +kernel
theorem dX7_common_26 : decode cX7_common 26 = .ok (.lstore 6, 2) := by decide +kernel
theorem dX7_common_28 : decode cX7_common 28 = .ok (.goto (-22), 3) := by decide +kernel
theorem dX7_common_31 : decode cX7_common 31 = .ok (.lload 4, 2) := by decide +kernel
theorem dX7_common_33 : decode cX7_common 33 = .ok (.lreturn, 1) := by decide +kernel
theorem dX7_jam_0 : decode cX7_jam 0 = .ok (.aload_n 0, 1) := by decide +kernel
theorem dX7_jam_1 : decode cX7_jam 1 = .ok (.iload_n 1, 1) := by decide +kernel
theorem dX7_jam_2 : decode cX7_jam 2 = .ok (.invokevirtual 192, 3) := by decide +kernel
theorem dX7_jam_5 : decode cX7_jam 5 = .ok (.ifCond .eq 33, 3) := by decide +kernel
theorem dX7_jam_8 : decode cX7_jam 8 = .ok (.iload_n 2, 1) := by decide +kernel
theorem dX7_jam_9 : decode cX7_jam 9 = .ok (.iconst 0, 1) := by decide +kernel
theorem dX7_jam_10 : decode cX7_jam 10 = .ok (.bipush 30, 2) := by decide +kernel
theorem dX7_jam_12 : decode cX7_jam 12 = .ok (.invokestatic 70, 3) := by decide +kernel
theorem dX7_jam_15 : decode cX7_jam 15 = .ok (.ifCond .eq 23, 3) := by decide +kernel
theorem dX7_jam_18 : decode cX7_jam 18 = .ok (.iload_n 3, 1) := by decide +kernel
theorem dX7_jam_19 : decode cX7_jam 19 = .ok (.iconst 0, 1) := by decide +kernel
theorem dX7_jam_20 : decode cX7_jam 20 = .ok (.bipush 10, 2) := by decide +kernel
theorem dX7_jam_22 : decode cX7_jam 22 = .ok (.invokestatic 70, 3) := by decide +kernel
theorem dX7_jam_25 : decode cX7_jam 25 = .ok (.ifCond .eq 13, 3) := by decide +kernel
theorem dX7_jam_28 : decode cX7_jam 28 = .ok (.iload 4, 2) := by decide +kernel
theorem dX7_jam_30 : decode cX7_jam 30 = .ok (.iconst 0, 1) := by decide +kernel
theorem dX7_jam_31 : decode cX7_jam 31 = .ok (.iconst 1, 1) := by decide +kernel
theorem dX7_jam_32 : decode cX7_jam 32 = .ok (.invokestatic 70, 3) := by decide +kernel
theorem dX7_jam_35 : decode cX7_jam 35 = .ok (.ifCond .ne 7, 3) := by decide +kernel
theorem dX7_jam_38 : decode cX7_jam 38 = .ok (.ldc2_w 241, 3) := by decide +kernel
theorem dX7_jam_41 : decode cX7_jam 41 = .ok (.lreturn, 1) := by decide +kernel
theorem dX7_jam_42 : decode cX7_jam 42 = .ok (.lconst 0, 1) := by decide +kernel
theorem dX7_jam_43 : decode cX7_jam 43 = .ok (.lstore 5, 2) := by decide +kernel
theorem dX7_jam_45 : decode cX7_jam 45 = .ok (.lconst 0, 1) := by decide +kernel
theorem dX7_jam_46 : decode cX7_jam 46 = .ok (.lstore 7, 2) := by decide +kernel
theorem dX7_jam_48 : decode cX7_jam 48 = .ok (.iconst 0, 1) := by decide +kernel
theorem dX7_jam_49 : decode cX7_jam 49 = .ok (.istore 9, 2) := by decide +kernel
theorem dX7_jam_51 : decode cX7_jam 51 = .ok (.iload 9, 2) := by decide +kernel
theorem dX7_jam_53 : decode cX7_jam 53 = .ok (.iconst 1, 1) := by decide +kernel
theorem dX7_jam_54 : decode cX7_jam 54 = .ok (.aload_n 0, 1) := by decide +kernel
theorem dX7_jam_55 : decode cX7_jam 55 = .ok (.getfield 77, 3) := by decide +kernel
theorem dX7_jam_58 : decode cX7_jam 58 = .ok (.ishl, 1) := by decide +kernel
theorem dX7_jam_59 : decode cX7_jam 59 = .ok (.if_icmp .ge 103, 3) := by decide +kernel
theorem dX7_jam_62 : decode cX7_jam 62 = .ok (.lconst 1, 1) := by decide +kernel
theorem dX7_jam_63 : decode cX7_jam 63 = .ok (.lstore 10, 2) := by decide +kernel
theorem dX7_jam_65 : decode cX7_jam 65 = .ok (.iconst 0, 1) := by decide +kernel
theorem dX7_jam_66 : decode cX7_jam 66 = .ok (.istore 12, 2) := by decide +kernel
theorem dX7_jam_68 : decode cX7_jam 68 = .ok (.iload 12, 2) := by decide +kernel
theorem dX7_jam_70 : decode cX7_jam 70 = .ok (.aload_n 0, 1) := by decide +kernel
theorem dX7_jam_71 : decode cX7_jam 71 = .ok (.getfield 77, 3) := by decide +kernel
theorem dX7_jam_74 : decode cX7_jam 74 = .ok (.if_icmp .ge 35, 3) := by decide +kernel
theorem dX7_jam_77 : decode cX7_jam 77 = .ok (.lload 10, 2) := by decide +kernel
theorem dX7_jam_79 : decode cX7_jam 79 = .ok (.iload 9, 2) := by decide +kernel
theorem dX7_jam_81 : decode cX7_jam 81 = .ok (.iload 12, 2) := by decide +kernel
theorem dX7_jam_83 : decode cX7_jam 83 = .ok (.ishr, 1) := by decide +kernel
theorem dX7_jam_84 : decode cX7_jam 84 = .ok (.iconst 1, 1) := by decide +kernel
theorem dX7_jam_85 : decode cX7_jam 85 = .ok (.iand, 1) := by decide +kernel
theorem dX7_jam_86 : decode cX7_jam 86 = .ok (.iconst 1, 1) := by decide +kernel
theorem dX7_jam_87 : decode cX7_jam 87 = .ok (.if_icmp .ne 8, 3) := by decide +kernel
theorem dX7_jam_90 : decode cX7_jam 90 = .ok (.iload_n 3, 1) := by decide +kernel
theorem dX7_jam_91 : decode cX7_jam 91 = .ok (.i2l, 1) := by decide +kernel
theorem dX7_jam_92 : decode cX7_jam 92 = .ok (.goto 8, 3) := by decide +kernel
theorem dX7_jam_95 : decode cX7_jam 95 = .ok (.bipush 10, 2) := by decide +kernel
theorem dX7_jam_97 : decode cX7_jam 97 = .ok (.iload_n 3, 1) := by decide +kernel
theorem dX7_jam_98 : decode cX7_jam 98 = .ok (.isub, 1) := by decide +kernel
theorem dX7_jam_99 : decode cX7_jam 99 = .ok (.i2l, 1) := by decide +kernel
theorem dX7_jam_100 : decode cX7_jam 100 = .ok (.lmul, 1) := by decide +kernel
theorem dX7_jam_101 : decode cX7_jam 101 = .ok (.lstore 10, 2) := by decide +kernel
theorem dX7_jam_103 : decode cX7_jam 103 = .ok (.iinc 12 1, 3) := by decide +kernel
theorem dX7_jam_106 : decode cX7_jam 106 = .ok (.goto (-38), 3) := by decide +kernel
theorem dX7_jam_109 : decode cX7_jam 109 = .ok (.aload_n 0, 1) := by decide +kernel
theorem dX7_jam_110 : decode cX7_jam 110 = .ok (.iload 9, 2) := by decide +kernel
theorem dX7_jam_112 : decode cX7_jam 112 = .ok (.putfield 162, 3) := by decide +kernel
theorem dX7_jam_115 : decode cX7_jam 115 = .ok (.aload_n 0, 1) := by decide +kernel
theorem dX7_jam_116 : decode cX7_jam 116 = .ok (.invokevirtual 202, 3) := by decide +kernel
theorem dX7_jam_119 : decode cX7_jam 119 = .ok (.aload_n 0, 1) := by decide +kernel
theorem dX7_jam_120 : decode cX7_jam 120 = .ok (.iload_n 2, 1) := by decide +kernel
theorem dX7_jam_121 : decode cX7_jam 121 = .ok (.invokevirtual 205, 3) := by decide +kernel
theorem dX7_jam_124 : decode cX7_jam 124 = .ok (.lload 5, 2) := by decide +kernel
theorem dX7_jam_126 : decode cX7_jam 126 = .ok (.aload_n 0, 1) := by decide +kernel
theorem dX7_jam_127 : decode cX7_jam 127 = .ok (.getfield 41, 3) := by decide +kernel
theorem dX7_jam_130 : decode cX7_jam 130 = .ok (.bipush 49, 2) := by decide +kernel
theorem dX7_jam_132 : decode cX7_jam 132 = .ok (.iload_n 1, 1) := by decide +kernel
theorem dX7_jam_133 : decode cX7_jam 133 = .ok (.iadd, 1) := by decide +kernel
theorem dX7_jam_134 : decode cX7_jam 134 = .ok (.iaload, 1) := by decide +kernel
theorem dX7_jam_135 : decode cX7_jam 135 = .ok (.bipush 9, 2) := by decide +kernel
theorem dX7_jam_137 : decode cX7_jam 137 = .ok (.if_icmp .ne 8, 3) := by decide +kernel
theorem dX7_jam_140 : decode cX7_jam 140 = .ok (.lload 10, 2) := by decide +kernel
theorem dX7_jam_142 : decode cX7_jam 142 = .ok (.goto 4, 3) := by decide +kernel
theorem dX7_jam_145 : decode cX7_jam 145 = .ok (.lconst 0, 1) := by decide +kernel
theorem dX7_jam_146 : decode cX7_jam 146 = .ok (.ladd, 1) := by decide +kernel
theorem dX7_jam_147 : decode cX7_jam 147 = .ok (.lstore 5, 2) := by decide +kernel
theorem dX7_jam_149 : decode cX7_jam 149 = .ok (.lload 7, 2) := by decide +kernel
theorem dX7_jam_151 : decode cX7_jam 151 = .ok (.lload 10, 2) := by decide +kernel
theorem dX7_jam_153 : decode cX7_jam 153 = .ok (.ladd, 1) := by decide +kernel
theorem dX7_jam_154 : decode cX7_jam 154 = .ok (.lstore 7, 2) := by decide +kernel
theorem dX7_jam_156 : decode cX7_jam 156 = .ok (.iinc 9 1, 3) := by decide +kernel
theorem dX7_jam_159 : decode cX7_jam 159 = .ok (.goto (-108), 3) := by decide +kernel
theorem dX7_jam_162 : decode cX7_jam 162 = .ok (.aload_n 0, 1) := by decide +kernel
theorem dX7_jam_163 : decode cX7_jam 163 = .ok (.iconst 0, 1) := by decide +kernel
theorem dX7_jam_164 : decode cX7_jam 164 = .ok (.putfield 162, 3) := by decide +kernel
theorem dX7_jam_167 : decode cX7_jam 167 = .ok (.lload 5, 2) := by decide +kernel
theorem dX7_jam_169 : decode cX7_jam 169 = .ok (.lload 7, 2) := by decide +kernel
theorem dX7_jam_171 : decode cX7_jam 171 = .ok (.invokestatic 243, 3) := by decide +kernel
theorem dX7_jam_174 : decode cX7_jam 174 = .ok (.lstore 9, 2) := by decide +kernel
theorem dX7_jam_176 : decode cX7_jam 176 = .ok (.iload 4, 2) := by decide +kernel
theorem dX7_jam_178 : decode cX7_jam 178 = .ok (.ifCond .ne 11, 3) := by decide +kernel
theorem dX7_jam_181 : decode cX7_jam 181 = .ok (.lload 5, 2) := by decide +kernel
theorem dX7_jam_183 : decode cX7_jam 183 = .ok (.lload 9, 2) := by decide +kernel
theorem dX7_jam_185 : decode cX7_jam 185 = .ok (.ldiv, 1) := by decide +kernel
theorem dX7_jam_186 : decode cX7_jam 186 = .ok (.goto 8, 3) := by decide +kernel
theorem dX7_jam_189 : decode cX7_jam 189 = .ok (.lload 7, 2) := by decide +kernel
theorem dX7_jam_191 : decode cX7_jam 191 = .ok (.lload 9, 2) := by decide +kernel
theorem dX7_jam_193 : decode cX7_jam 193 = .ok (.ldiv, 1) := by decide +kernel
theorem dX7_jam_194 : decode cX7_jam 194 = .ok (.lreturn, 1) := by decide +kernel
theorem dX7_drawn_0 : decode cX7_drawn 0 = .ok (.aload_n 0, 1) := by decide +kernel
theorem dX7_drawn_1 : decode cX7_drawn 1 = .ok (.invokevirtual 174, 3) := by decide +kernel
theorem dX7_drawn_4 : decode cX7_drawn 4 = .ok (.ifCond .eq 6, 3) := by decide +kernel
theorem dX7_drawn_7 : decode cX7_drawn 7 = .ok (.ldc 173, 2) := by decide +kernel
theorem dX7_drawn_9 : decode cX7_drawn 9 = .ok (.ireturn, 1) := by decide +kernel
theorem dX7_drawn_10 : decode cX7_drawn 10 = .ok (.iload_n 1, 1) := by decide +kernel
theorem dX7_drawn_11 : decode cX7_drawn 11 = .ok (.iconst 0, 1) := by decide +kernel
theorem dX7_drawn_12 : decode cX7_drawn 12 = .ok (.bipush 60, 2) := by decide +kernel
theorem dX7_drawn_14 : decode cX7_drawn 14 = .ok (.invokestatic 70, 3) := by decide +kernel
theorem dX7_drawn_17 : decode cX7_drawn 17 = .ok (.ifCond .eq 22, 3) := by decide +kernel
theorem dX7_drawn_20 : decode cX7_drawn 20 = .ok (.iload_n 2, 1) := by decide +kernel
theorem dX7_drawn_21 : decode cX7_drawn 21 = .ok (.iconst 1, 1) := by decide +kernel
theorem dX7_drawn_22 : decode cX7_drawn 22 = .ok (.ldc 247, 2) := by decide +kernel
theorem dX7_drawn_24 : decode cX7_drawn 24 = .ok (.invokestatic 70, 3) := by decide +kernel
theorem dX7_drawn_27 : decode cX7_drawn 27 = .ok (.ifCond .eq 12, 3) := by decide +kernel
theorem dX7_drawn_30 : decode cX7_drawn 30 = .ok (.iload_n 3, 1) := by decide +kernel
theorem dX7_drawn_31 : decode cX7_drawn 31 = .ok (.iconst 0, 1) := by decide +kernel
theorem dX7_drawn_32 : decode cX7_drawn 32 = .ok (.iconst 1, 1) := by decide +kernel
theorem dX7_drawn_33 : decode cX7_drawn 33 = .ok (.invokestatic 70, 3) := by decide +kernel
theorem dX7_drawn_36 : decode cX7_drawn 36 = .ok (.ifCond .ne 6, 3) := by decide +kernel
theorem dX7_drawn_39 : decode cX7_drawn 39 = .ok (.ldc 84, 2) := by decide +kernel
theorem dX7_drawn_41 : decode cX7_drawn 41 = .ok (.ireturn, 1) := by decide +kernel
theorem dX7_drawn_42 : decode cX7_drawn 42 = .ok (.iload_n 2, 1) := by decide +kernel
theorem dX7_drawn_43 : decode cX7_drawn 43 = .ok (.i2l, 1) := by decide +kernel
theorem dX7_drawn_44 : decode cX7_drawn 44 = .ok (.lstore 4, 2) := by decide +kernel
theorem dX7_drawn_46 : decode cX7_drawn 46 = .ok (.iconst 0, 1) := by decide +kernel
theorem dX7_drawn_47 : decode cX7_drawn 47 = .ok (.istore 6, 2) := by decide +kernel
theorem dX7_drawn_49 : decode cX7_drawn 49 = .ok (.aload_n 0, 1) := by decide +kernel
theorem dX7_drawn_50 : decode cX7_drawn 50 = .ok (.invokevirtual 202, 3) := by decide +kernel
theorem dX7_drawn_53 : decode cX7_drawn 53 = .ok (.iconst 0, 1) := by decide +kernel
theorem dX7_drawn_54 : decode cX7_drawn 54 = .ok (.istore 7, 2) := by decide +kernel
theorem dX7_drawn_56 : decode cX7_drawn 56 = .ok (.iload 7, 2) := by decide +kernel
theorem dX7_drawn_58 : decode cX7_drawn 58 = .ok (.iload_n 1, 1) := by decide +kernel
theorem dX7_drawn_59 : decode cX7_drawn 59 = .ok (.if_icmp .ge 142, 3) := by decide +kernel
theorem dX7_drawn_62 : decode cX7_drawn 62 = .ok (.lload 4, 2) := by decide +kernel
theorem dX7_drawn_64 : decode cX7_drawn 64 = .ok (.ldc2_w 248, 3) := by decide +kernel
theorem dX7_drawn_67 : decode cX7_drawn 67 = .ok (.lmul, 1) := by decide +kernel
theorem dX7_drawn_68 : decode cX7_drawn 68 = .ok (.ldc2_w 250, 3) := by decide +kernel
theorem dX7_drawn_71 : decode cX7_drawn 71 = .ok (.lrem, 1) := by decide +kernel
theorem dX7_drawn_72 : decode cX7_drawn 72 = .ok (.lstore 4, 2) := by decide +kernel
theorem dX7_drawn_74 : decode cX7_drawn 74 = .ok (.lload 4, 2) := by decide +kernel
theorem dX7_drawn_76 : decode cX7_drawn 76 = .ok (.aload_n 0, 1) := by decide +kernel
theorem dX7_drawn_77 : decode cX7_drawn 77 = .ok (.getfield 74, 3) := by decide +kernel
theorem dX7_drawn_80 : decode cX7_drawn 80 = .ok (.i2l, 1) := by decide +kernel
theorem dX7_drawn_81 : decode cX7_drawn 81 = .ok (.lrem, 1) := by decide +kernel
theorem dX7_drawn_82 : decode cX7_drawn 82 = .ok (.l2i, 1) := by decide +kernel
theorem dX7_drawn_83 : decode cX7_drawn 83 = .ok (.istore 8, 2) := by decide +kernel
theorem dX7_drawn_85 : decode cX7_drawn 85 = .ok (.aload_n 0, 1) := by decide +kernel
theorem dX7_drawn_86 : decode cX7_drawn 86 = .ok (.aload_n 0, 1) := by decide +kernel
theorem dX7_drawn_87 : decode cX7_drawn 87 = .ok (.getfield 41, 3) := by decide +kernel
theorem dX7_drawn_90 : decode cX7_drawn 90 = .ok (.iload 8, 2) := by decide +kernel
theorem dX7_drawn_92 : decode cX7_drawn 92 = .ok (.invokevirtual 195, 3) := by decide +kernel
theorem dX7_drawn_95 : decode cX7_drawn 95 = .ok (.ifCond .eq 24, 3) := by decide +kernel
theorem dX7_drawn_98 : decode cX7_drawn 98 = .ok (.aload_n 0, 1) := by decide +kernel
theorem dX7_drawn_99 : decode cX7_drawn 99 = .ok (.getfield 41, 3) := by decide +kernel
theorem dX7_drawn_102 : decode cX7_drawn 102 = .ok (.iload 8, 2) := by decide +kernel
theorem dX7_drawn_104 : decode cX7_drawn 104 = .ok (.lload 4, 2) := by decide +kernel
theorem dX7_drawn_106 : decode cX7_drawn 106 = .ok (.ldc2_w 252, 3) := by decide +kernel
theorem dX7_drawn_109 : decode cX7_drawn 109 = .ok (.lrem, 1) := by decide +kernel
theorem dX7_drawn_110 : decode cX7_drawn 110 = .ok (.l2i, 1) := by decide +kernel
theorem dX7_drawn_111 : decode cX7_drawn 111 = .ok (.iconst 1, 1) := by decide +kernel
theorem dX7_drawn_112 : decode cX7_drawn 112 = .ok (.iadd, 1) := by decide +kernel
theorem dX7_drawn_113 : decode cX7_drawn 113 = .ok (.invokestatic 199, 3) := by decide +kernel
theorem dX7_drawn_116 : decode cX7_drawn 116 = .ok (.goto 29, 3) := by decide +kernel
theorem dX7_drawn_119 : decode cX7_drawn 119 = .ok (.lload 4, 2) := by decide +kernel
theorem dX7_drawn_121 : decode cX7_drawn 121 = .ok (.ldc2_w 254, 3) := by decide +kernel
theorem dX7_drawn_124 : decode cX7_drawn 124 = .ok (.lrem, 1) := by decide +kernel
theorem dX7_drawn_125 : decode cX7_drawn 125 = .ok (.lconst 0, 1) := by decide +kernel
theorem dX7_drawn_126 : decode cX7_drawn 126 = .ok (.lcmp, 1) := by decide +kernel
theorem dX7_drawn_127 : decode cX7_drawn 127 = .ok (.ifCond .ne 18, 3) := by decide +kernel
theorem dX7_drawn_130 : decode cX7_drawn 130 = .ok (.aload_n 0, 1) := by decide +kernel
theorem dX7_drawn_131 : decode cX7_drawn 131 = .ok (.iconst 1, 1) := by decide +kernel
theorem dX7_drawn_132 : decode cX7_drawn 132 = .ok (.lload 4, 2) := by decide +kernel
theorem dX7_drawn_134 : decode cX7_drawn 134 = .ok (.aload_n 0, 1) := by decide +kernel
theorem dX7_drawn_135 : decode cX7_drawn 135 = .ok (.getfield 77, 3) := by decide +kernel
theorem dX7_drawn_138 : decode cX7_drawn 138 = .ok (.i2l, 1) := by decide +kernel
theorem dX7_drawn_139 : decode cX7_drawn 139 = .ok (.lrem, 1) := by decide +kernel
theorem dX7_drawn_140 : decode cX7_drawn 140 = .ok (.l2i, 1) := by decide +kernel
theorem dX7_drawn_141 : decode cX7_drawn 141 = .ok (.ishl, 1) := by decide +kernel
theorem dX7_drawn_142 : decode cX7_drawn 142 = .ok (.invokevirtual 214, 3) := by decide +kernel
theorem dX7_drawn_145 : decode cX7_drawn 145 = .ok (.iload_n 3, 1) := by decide +kernel
theorem dX7_drawn_146 : decode cX7_drawn 146 = .ok (.ifCond .ne 10, 3) := by decide +kernel
theorem dX7_drawn_149 : decode cX7_drawn 149 = .ok (.aload_n 0, 1) := by decide +kernel
theorem dX7_drawn_150 : decode cX7_drawn 150 = .ok (.invokevirtual 211, 3) := by decide +kernel
theorem dX7_drawn_153 : decode cX7_drawn 153 = .ok (.goto 7, 3) := by decide +kernel
theorem dX7_drawn_156 : decode cX7_drawn 156 = .ok (.aload_n 0, 1) := by decide +kernel
theorem dX7_drawn_157 : decode cX7_drawn 157 = .ok (.invokevirtual 208, 3) := by decide +kernel
theorem dX7_drawn_160 : decode cX7_drawn 160 = .ok (.istore 9, 2) := by decide +kernel
theorem dX7_drawn_162 : decode cX7_drawn 162 = .ok (.aload_n 0, 1) := by decide +kernel
theorem dX7_drawn_163 : decode cX7_drawn 163 = .ok (.iconst 1, 1) := by decide +kernel
theorem dX7_drawn_164 : decode cX7_drawn 164 = .ok (.invokevirtual 205, 3) := by decide +kernel
theorem dX7_drawn_167 : decode cX7_drawn 167 = .ok (.iload 6, 2) := by decide +kernel
theorem dX7_drawn_169 : decode cX7_drawn 169 = .ok (.iload_n 3, 1) := by decide +kernel
theorem dX7_drawn_170 : decode cX7_drawn 170 = .ok (.ifCond .ne 10, 3) := by decide +kernel
theorem dX7_drawn_173 : decode cX7_drawn 173 = .ok (.aload_n 0, 1) := by decide +kernel
theorem dX7_drawn_174 : decode cX7_drawn 174 = .ok (.invokevirtual 211, 3) := by decide +kernel
theorem dX7_drawn_177 : decode cX7_drawn 177 = .ok (.goto 7, 3) := by decide +kernel
theorem dX7_drawn_180 : decode cX7_drawn 180 = .ok (.aload_n 0, 1) := by decide +kernel
theorem dX7_drawn_181 : decode cX7_drawn 181 = .ok (.invokevirtual 208, 3) := by decide +kernel
theorem dX7_drawn_184 : decode cX7_drawn 184 = .ok (.iload 9, 2) := by decide +kernel
theorem dX7_drawn_186 : decode cX7_drawn 186 = .ok (.iconst (-1), 1) := by decide +kernel
theorem dX7_drawn_187 : decode cX7_drawn 187 = .ok (.ixor, 1) := by decide +kernel
theorem dX7_drawn_188 : decode cX7_drawn 188 = .ok (.iand, 1) := by decide +kernel
theorem dX7_drawn_189 : decode cX7_drawn 189 = .ok (.invokestatic 217, 3) := by decide +kernel
theorem dX7_drawn_192 : decode cX7_drawn 192 = .ok (.iadd, 1) := by decide +kernel
theorem dX7_drawn_193 : decode cX7_drawn 193 = .ok (.istore 6, 2) := by decide +kernel
theorem dX7_drawn_195 : decode cX7_drawn 195 = .ok (.iinc 7 1, 3) := by decide +kernel
theorem dX7_drawn_198 : decode cX7_drawn 198 = .ok (.goto (-142), 3) := by decide +kernel
theorem dX7_drawn_201 : decode cX7_drawn 201 = .ok (.iload 6, 2) := by decide +kernel
theorem dX7_drawn_203 : decode cX7_drawn 203 = .ok (.ireturn, 1) := by decide +kernel
theorem dX7_image_0 : decode cX7_image 0 = .ok (.iload_n 1, 1) := by decide +kernel
theorem dX7_image_1 : decode cX7_image 1 = .ok (.iconst 0, 1) := by decide +kernel
theorem dX7_image_2 : decode cX7_image 2 = .ok (.iconst 1, 1) := by decide +kernel
theorem dX7_image_3 : decode cX7_image 3 = .ok (.invokestatic 70, 3) := by decide +kernel
theorem dX7_image_6 : decode cX7_image 6 = .ok (.ifCond .ne 6, 3) := by decide +kernel
theorem dX7_image_9 : decode cX7_image 9 = .ok (.ldc 84, 2) := by decide +kernel
theorem dX7_image_11 : decode cX7_image 11 = .ok (.ireturn, 1) := by decide +kernel
theorem dX7_image_12 : decode cX7_image 12 = .ok (.aload_n 0, 1) := by decide +kernel
theorem dX7_image_13 : decode cX7_image 13 = .ok (.invokevirtual 174, 3) := by decide +kernel
theorem dX7_image_16 : decode cX7_image 16 = .ok (.ifCond .eq 6, 3) := by decide +kernel
theorem dX7_image_19 : decode cX7_image 19 = .ok (.ldc 173, 2) := by decide +kernel
theorem dX7_image_21 : decode cX7_image 21 = .ok (.ireturn, 1) := by decide +kernel
theorem dX7_image_22 : decode cX7_image 22 = .ok (.bipush 78, 2) := by decide +kernel
theorem dX7_image_24 : decode cX7_image 24 = .ok (.iload_n 1, 1) := by decide +kernel
theorem dX7_image_25 : decode cX7_image 25 = .ok (.imul, 1) := by decide +kernel
theorem dX7_image_26 : decode cX7_image 26 = .ok (.istore_n 2, 1) := by decide +kernel
theorem dX7_image_27 : decode cX7_image 27 = .ok (.aload_n 0, 1) := by decide +kernel
theorem dX7_image_28 : decode cX7_image 28 = .ok (.getfield 34, 3) := by decide +kernel
theorem dX7_image_31 : decode cX7_image 31 = .ok (.iload_n 1, 1) := by decide +kernel
theorem dX7_image_32 : decode cX7_image 32 = .ok (.iconst 1, 1) := by decide +kernel
theorem dX7_image_33 : decode cX7_image 33 = .ok (.bastore, 1) := by decide +kernel
theorem dX7_image_34 : decode cX7_image 34 = .ok (.aload_n 0, 1) := by decide +kernel
theorem dX7_image_35 : decode cX7_image 35 = .ok (.getfield 31, 3) := by decide +kernel
theorem dX7_image_38 : decode cX7_image 38 = .ok (.iload_n 2, 1) := by decide +kernel
theorem dX7_image_39 : decode cX7_image 39 = .ok (.aload_n 0, 1) := by decide +kernel
theorem dX7_image_40 : decode cX7_image 40 = .ok (.getfield 152, 3) := by decide +kernel
theorem dX7_image_43 : decode cX7_image 43 = .ok (.iastore, 1) := by decide +kernel
theorem dX7_image_44 : decode cX7_image 44 = .ok (.aload_n 0, 1) := by decide +kernel
theorem dX7_image_45 : decode cX7_image 45 = .ok (.getfield 31, 3) := by decide +kernel
theorem dX7_image_48 : decode cX7_image 48 = .ok (.iload_n 2, 1) := by decide +kernel
theorem dX7_image_49 : decode cX7_image 49 = .ok (.iconst 1, 1) := by decide +kernel
theorem dX7_image_50 : decode cX7_image 50 = .ok (.iadd, 1) := by decide +kernel
theorem dX7_image_51 : decode cX7_image 51 = .ok (.aload_n 0, 1) := by decide +kernel
theorem dX7_image_52 : decode cX7_image 52 = .ok (.getfield 74, 3) := by decide +kernel
theorem dX7_image_55 : decode cX7_image 55 = .ok (.iastore, 1) := by decide +kernel
theorem dX7_image_56 : decode cX7_image 56 = .ok (.aload_n 0, 1) := by decide +kernel
theorem dX7_image_57 : decode cX7_image 57 = .ok (.getfield 31, 3) := by decide +kernel
theorem dX7_image_60 : decode cX7_image 60 = .ok (.iload_n 2, 1) := by decide +kernel
theorem dX7_image_61 : decode cX7_image 61 = .ok (.iconst 2, 1) := by decide +kernel
theorem dX7_image_62 : decode cX7_image 62 = .ok (.iadd, 1) := by decide +kernel
theorem dX7_image_63 : decode cX7_image 63 = .ok (.aload_n 0, 1) := by decide +kernel
theorem dX7_image_64 : decode cX7_image 64 = .ok (.getfield 77, 3) := by decide +kernel
theorem dX7_image_67 : decode cX7_image 67 = .ok (.iastore, 1) := by decide +kernel
theorem dX7_image_68 : decode cX7_image 68 = .ok (.aload_n 0, 1) := by decide +kernel
theorem dX7_image_69 : decode cX7_image 69 = .ok (.getfield 22, 3) := by decide +kernel
theorem dX7_image_72 : decode cX7_image 72 = .ok (.iconst 0, 1) := by decide +kernel
theorem dX7_image_73 : decode cX7_image 73 = .ok (.aload_n 0, 1) := by decide +kernel
theorem dX7_image_74 : decode cX7_image 74 = .ok (.getfield 31, 3) := by decide +kernel
theorem dX7_image_77 : decode cX7_image 77 = .ok (.iload_n 2, 1) := by decide +kernel
theorem dX7_image_78 : decode cX7_image 78 = .ok (.iconst 3, 1) := by decide +kernel
theorem dX7_image_79 : decode cX7_image 79 = .ok (.iadd, 1) := by decide +kernel
theorem dX7_image_80 : decode cX7_image 80 = .ok (.bipush 8, 2) := by decide +kernel
theorem dX7_image_82 : decode cX7_image 82 = .ok (.invokestatic 155, 3) := by decide +kernel
theorem dX7_image_85 : decode cX7_image 85 = .ok (.aload_n 0, 1) := by decide +kernel
theorem dX7_image_86 : decode cX7_image 86 = .ok (.getfield 25, 3) := by decide +kernel
theorem dX7_image_89 : decode cX7_image 89 = .ok (.iconst 0, 1) := by decide +kernel
theorem dX7_image_90 : decode cX7_image 90 = .ok (.aload_n 0, 1) := by decide +kernel
theorem dX7_image_91 : decode cX7_image 91 = .ok (.getfield 31, 3) := by decide +kernel
theorem dX7_image_94 : decode cX7_image 94 = .ok (.iload_n 2, 1) := by decide +kernel
theorem dX7_image_95 : decode cX7_image 95 = .ok (.bipush 11, 2) := by decide +kernel
theorem dX7_image_97 : decode cX7_image 97 = .ok (.iadd, 1) := by decide +kernel
theorem dX7_image_98 : decode cX7_image 98 = .ok (.bipush 67, 2) := by decide +kernel
theorem dX7_image_100 : decode cX7_image 100 = .ok (.invokestatic 155, 3) := by decide +kernel
theorem dX7_image_103 : decode cX7_image 103 = .ok (.iconst 1, 1) := by decide +kernel
theorem dX7_image_104 : decode cX7_image 104 = .ok (.ireturn, 1) := by decide +kernel
theorem dX7_restore_0 : decode cX7_restore 0 = .ok (.iload_n 1, 1) := by decide +kernel
theorem dX7_restore_1 : decode cX7_restore 1 = .ok (.iconst 0, 1) := by decide +kernel
theorem dX7_restore_2 : decode cX7_restore 2 = .ok (.iconst 1, 1) := by decide +kernel
theorem dX7_restore_3 : decode cX7_restore 3 = .ok (.invokestatic 70, 3) := by decide +kernel
theorem dX7_restore_6 : decode cX7_restore 6 = .ok (.ifCond .ne 6, 3) := by decide +kernel
theorem dX7_restore_9 : decode cX7_restore 9 = .ok (.ldc 84, 2) := by decide +kernel
theorem dX7_restore_11 : decode cX7_restore 11 = .ok (.ireturn, 1) := by decide +kernel
theorem dX7_restore_12 : decode cX7_restore 12 = .ok (.aload_n 0, 1) := by decide +kernel
theorem dX7_restore_13 : decode cX7_restore 13 = .ok (.getfield 34, 3) := by decide +kernel
theorem dX7_restore_16 : decode cX7_restore 16 = .ok (.iload_n 1, 1) := by decide +kernel
theorem dX7_restore_17 : decode cX7_restore 17 = .ok (.baload, 1) := by decide +kernel
theorem dX7_restore_18 : decode cX7_restore 18 = .ok (.ifCond .ne 6, 3) := by decide +kernel
theorem dX7_restore_21 : decode cX7_restore 21 = .ok (.ldc 173, 2) := by decide +kernel
theorem dX7_restore_23 : decode cX7_restore 23 = .ok (.ireturn, 1) := by decide +kernel
theorem dX7_restore_24 : decode cX7_restore 24 = .ok (.bipush 78, 2) := by decide +kernel
theorem dX7_restore_26 : decode cX7_restore 26 = .ok (.iload_n 1, 1) := by decide +kernel
theorem dX7_restore_27 : decode cX7_restore 27 = .ok (.imul, 1) := by decide +kernel
theorem dX7_restore_28 : decode cX7_restore 28 = .ok (.istore_n 2, 1) := by decide +kernel
theorem dX7_restore_29 : decode cX7_restore 29 = .ok (.aload_n 0, 1) := by decide +kernel
theorem dX7_restore_30 : decode cX7_restore 30 = .ok (.aload_n 0, 1) := by decide +kernel
theorem dX7_restore_31 : decode cX7_restore 31 = .ok (.getfield 31, 3) := by decide +kernel
theorem dX7_restore_34 : decode cX7_restore 34 = .ok (.iload_n 2, 1) := by decide +kernel
theorem dX7_restore_35 : decode cX7_restore 35 = .ok (.iaload, 1) := by decide +kernel
theorem dX7_restore_36 : decode cX7_restore 36 = .ok (.putfield 152, 3) := by decide +kernel
theorem dX7_restore_39 : decode cX7_restore 39 = .ok (.aload_n 0, 1) := by decide +kernel
theorem dX7_restore_40 : decode cX7_restore 40 = .ok (.aload_n 0, 1) := by decide +kernel
theorem dX7_restore_41 : decode cX7_restore 41 = .ok (.getfield 31, 3) := by decide +kernel
theorem dX7_restore_44 : decode cX7_restore 44 = .ok (.iload_n 2, 1) := by decide +kernel
theorem dX7_restore_45 : decode cX7_restore 45 = .ok (.iconst 1, 1) := by decide +kernel
theorem dX7_restore_46 : decode cX7_restore 46 = .ok (.iadd, 1) := by decide +kernel
theorem dX7_restore_47 : decode cX7_restore 47 = .ok (.iaload, 1) := by decide +kernel
theorem dX7_restore_48 : decode cX7_restore 48 = .ok (.putfield 74, 3) := by decide +kernel
theorem dX7_restore_51 : decode cX7_restore 51 = .ok (.aload_n 0, 1) := by decide +kernel
theorem dX7_restore_52 : decode cX7_restore 52 = .ok (.aload_n 0, 1) := by decide +kernel
theorem dX7_restore_53 : decode cX7_restore 53 = .ok (.getfield 31, 3) := by decide +kernel
theorem dX7_restore_56 : decode cX7_restore 56 = .ok (.iload_n 2, 1) := by decide +kernel
theorem dX7_restore_57 : decode cX7_restore 57 = .ok (.iconst 2, 1) := by decide +kernel
theorem dX7_restore_58 : decode cX7_restore 58 = .ok (.iadd, 1) := by decide +kernel
theorem dX7_restore_59 : decode cX7_restore 59 = .ok (.iaload, 1) := by decide +kernel
theorem dX7_restore_60 : decode cX7_restore 60 = .ok (.putfield 77, 3) := by decide +kernel
theorem dX7_restore_63 : decode cX7_restore 63 = .ok (.aload_n 0, 1) := by decide +kernel
theorem dX7_restore_64 : decode cX7_restore 64 = .ok (.getfield 31, 3) := by decide +kernel
theorem dX7_restore_67 : decode cX7_restore 67 = .ok (.iload_n 2, 1) := by decide +kernel
theorem dX7_restore_68 : decode cX7_restore 68 = .ok (.iconst 3, 1) := by decide +kernel
theorem dX7_restore_69 : decode cX7_restore 69 = .ok (.iadd, 1) := by decide +kernel
theorem dX7_restore_70 : decode cX7_restore 70 = .ok (.aload_n 0, 1) := by decide +kernel
theorem dX7_restore_71 : decode cX7_restore 71 = .ok (.getfield 22, 3) := by decide +kernel
theorem dX7_restore_74 : decode cX7_restore 74 = .ok (.iconst 0, 1) := by decide +kernel
theorem dX7_restore_75 : decode cX7_restore 75 = .ok (.bipush 8, 2) := by decide +kernel
theorem dX7_restore_77 : decode cX7_restore 77 = .ok (.invokestatic 155, 3) := by decide +kernel
theorem dX7_restore_80 : decode cX7_restore 80 = .ok (.aload_n 0, 1) := by decide +kernel
theorem dX7_restore_81 : decode cX7_restore 81 = .ok (.getfield 31, 3) := by decide +kernel
theorem dX7_restore_84 : decode cX7_restore 84 = .ok (.iload_n 2, 1) := by decide +kernel
theorem dX7_restore_85 : decode cX7_restore 85 = .ok (.bipush 11, 2) := by decide +kernel
theorem dX7_restore_87 : decode cX7_restore 87 = .ok (.iadd, 1) := by decide +kernel
theorem dX7_restore_88 : decode cX7_restore 88 = .ok (.aload_n 0, 1) := by decide +kernel
theorem dX7_restore_89 : decode cX7_restore 89 = .ok (.getfield 25, 3) := by decide +kernel
theorem dX7_restore_92 : decode cX7_restore 92 = .ok (.iconst 0, 1) := by decide +kernel
theorem dX7_restore_93 : decode cX7_restore 93 = .ok (.bipush 67, 2) := by decide +kernel
theorem dX7_restore_95 : decode cX7_restore 95 = .ok (.invokestatic 155, 3) := by decide +kernel
theorem dX7_restore_98 : decode cX7_restore 98 = .ok (.aload_n 0, 1) := by decide +kernel
theorem dX7_restore_99 : decode cX7_restore 99 = .ok (.iconst 0, 1) := by decide +kernel
theorem dX7_restore_100 : decode cX7_restore 100 = .ok (.putfield 159, 3) := by decide +kernel
theorem dX7_restore_103 : decode cX7_restore 103 = .ok (.iconst 1, 1) := by decide +kernel
theorem dX7_restore_104 : decode cX7_restore 104 = .ok (.ireturn, 1) := by decide +kernel
theorem dX7_kind_0 : decode cX7_kind 0 = .ok (.aload_n 0, 1) := by decide +kernel
theorem dX7_kind_1 : decode cX7_kind 1 = .ok (.iload_n 1, 1) := by decide +kernel
theorem dX7_kind_2 : decode cX7_kind 2 = .ok (.invokevirtual 189, 3) := by decide +kernel
theorem dX7_kind_5 : decode cX7_kind 5 = .ok (.ifCond .eq 12, 3) := by decide +kernel
theorem dX7_kind_8 : decode cX7_kind 8 = .ok (.aload_n 0, 1) := by decide +kernel
theorem dX7_kind_9 : decode cX7_kind 9 = .ok (.getfield 22, 3) := by decide +kernel
theorem dX7_kind_12 : decode cX7_kind 12 = .ok (.iload_n 1, 1) := by decide +kernel
theorem dX7_kind_13 : decode cX7_kind 13 = .ok (.iaload, 1) := by decide +kernel
theorem dX7_kind_14 : decode cX7_kind 14 = .ok (.goto 5, 3) := by decide +kernel
theorem dX7_kind_17 : decode cX7_kind 17 = .ok (.ldc 84, 2) := by decide +kernel
theorem dX7_kind_19 : decode cX7_kind 19 = .ok (.ireturn, 1) := by decide +kernel
theorem dX7_isA_0 : decode cX7_isA 0 = .ok (.aload_n 0, 1) := by decide +kernel
theorem dX7_isA_1 : decode cX7_isA 1 = .ok (.getfield 22, 3) := by decide +kernel
theorem dX7_isA_4 : decode cX7_isA 4 = .ok (.iload_n 1, 1) := by decide +kernel
theorem dX7_isA_5 : decode cX7_isA 5 = .ok (.iaload, 1) := by decide +kernel
theorem dX7_isA_6 : decode cX7_isA 6 = .ok (.istore_n 3, 1) := by decide +kernel
theorem dX7_isA_7 : decode cX7_isA 7 = .ok (.iload_n 2, 1) := by decide +kernel
theorem dX7_isA_8 : decode cX7_isA 8 = .ok (.ifCond .eq 28, 3) := by decide +kernel
theorem dX7_isA_11 : decode cX7_isA 11 = .ok (.iload_n 2, 1) := by decide +kernel
theorem dX7_isA_12 : decode cX7_isA 12 = .ok (.iload_n 3, 1) := by decide +kernel
theorem dX7_isA_13 : decode cX7_isA 13 = .ok (.if_icmp .eq 23, 3) := by decide +kernel
theorem dX7_isA_16 : decode cX7_isA 16 = .ok (.iload_n 2, 1) := by decide +kernel
theorem dX7_isA_17 : decode cX7_isA 17 = .ok (.iconst 1, 1) := by decide +kernel
theorem dX7_isA_18 : decode cX7_isA 18 = .ok (.if_icmp .ne 8, 3) := by decide +kernel
theorem dX7_isA_21 : decode cX7_isA 21 = .ok (.iload_n 3, 1) := by decide +kernel
theorem dX7_isA_22 : decode cX7_isA 22 = .ok (.iconst 4, 1) := by decide +kernel
theorem dX7_isA_23 : decode cX7_isA 23 = .ok (.if_icmp .lt 13, 3) := by decide +kernel
theorem dX7_isA_26 : decode cX7_isA 26 = .ok (.iload_n 2, 1) := by decide +kernel
theorem dX7_isA_27 : decode cX7_isA 27 = .ok (.iconst 4, 1) := by decide +kernel
theorem dX7_isA_28 : decode cX7_isA 28 = .ok (.if_icmp .ne 12, 3) := by decide +kernel
theorem dX7_isA_31 : decode cX7_isA 31 = .ok (.iload_n 3, 1) := by decide +kernel
theorem dX7_isA_32 : decode cX7_isA 32 = .ok (.iconst 5, 1) := by decide +kernel
theorem dX7_isA_33 : decode cX7_isA 33 = .ok (.if_icmp .ne 7, 3) := by decide +kernel
theorem dX7_isA_36 : decode cX7_isA 36 = .ok (.iconst 1, 1) := by decide +kernel
theorem dX7_isA_37 : decode cX7_isA 37 = .ok (.goto 4, 3) := by decide +kernel
theorem dX7_isA_40 : decode cX7_isA 40 = .ok (.iconst 0, 1) := by decide +kernel
theorem dX7_isA_41 : decode cX7_isA 41 = .ok (.ireturn, 1) := by decide +kernel
theorem dX7_as_0 : decode cX7_as 0 = .ok (.aload_n 0, 1) := by decide +kernel
theorem dX7_as_1 : decode cX7_as 1 = .ok (.iload_n 1, 1) := by decide +kernel
theorem dX7_as_2 : decode cX7_as 2 = .ok (.invokevirtual 189, 3) := by decide +kernel
theorem dX7_as_5 : decode cX7_as 5 = .ok (.ifCond .eq 12, 3) := by decide +kernel
theorem dX7_as_8 : decode cX7_as 8 = .ok (.iload_n 2, 1) := by decide +kernel
theorem dX7_as_9 : decode cX7_as 9 = .ok (.iconst 0, 1) := by decide +kernel
theorem dX7_as_10 : decode cX7_as 10 = .ok (.iconst 5, 1) := by decide +kernel
theorem dX7_as_11 : decode cX7_as 11 = .ok (.invokestatic 70, 3) := by decide +kernel
theorem dX7_as_14 : decode cX7_as 14 = .ok (.ifCond .ne 6, 3) := by decide +kernel
theorem dX7_as_17 : decode cX7_as 17 = .ok (.ldc 84, 2) := by decide +kernel
theorem dX7_as_19 : decode cX7_as 19 = .ok (.ireturn, 1) := by decide +kernel
theorem dX7_as_20 : decode cX7_as 20 = .ok (.aload_n 0, 1) := by decide +kernel
theorem dX7_as_21 : decode cX7_as 21 = .ok (.iload_n 1, 1) := by decide +kernel
theorem dX7_as_22 : decode cX7_as 22 = .ok (.iload_n 2, 1) := by decide +kernel
theorem dX7_as_23 : decode cX7_as 23 = .ok (.invokevirtual 256, 3) := by decide +kernel
theorem dX7_as_26 : decode cX7_as 26 = .ok (.ifCond .ne 9, 3) := by decide +kernel
theorem dX7_as_29 : decode cX7_as 29 = .ok (.aload_n 0, 1) := by decide +kernel
theorem dX7_as_30 : decode cX7_as 30 = .ok (.iconst 3, 1) := by decide +kernel
theorem dX7_as_31 : decode cX7_as 31 = .ok (.invokevirtual 85, 3) := by decide +kernel
theorem dX7_as_34 : decode cX7_as 34 = .ok (.ireturn, 1) := by decide +kernel
theorem dX7_as_35 : decode cX7_as 35 = .ok (.aload_n 0, 1) := by decide +kernel
theorem dX7_as_36 : decode cX7_as 36 = .ok (.iconst 0, 1) := by decide +kernel
theorem dX7_as_37 : decode cX7_as 37 = .ok (.putfield 65, 3) := by decide +kernel
theorem dX7_as_40 : decode cX7_as 40 = .ok (.iload_n 1, 1) := by decide +kernel
theorem dX7_as_41 : decode cX7_as 41 = .ok (.ireturn, 1) := by decide +kernel
theorem dX7_begins_0 : decode cX7_begins 0 = .ok (.aload_n 0, 1) := by decide +kernel
theorem dX7_begins_1 : decode cX7_begins 1 = .ok (.getfield 259, 3) := by decide +kernel
theorem dX7_begins_4 : decode cX7_begins 4 = .ok (.bipush 16, 2) := by decide +kernel
theorem dX7_begins_6 : decode cX7_begins 6 = .ok (.if_icmp .ge 23, 3) := by decide +kernel
theorem dX7_begins_9 : decode cX7_begins 9 = .ok (.aload_n 0, 1) := by decide +kernel
theorem dX7_begins_10 : decode cX7_begins 10 = .ok (.getfield 44, 3) := by decide +kernel
theorem dX7_begins_13 : decode cX7_begins 13 = .ok (.aload_n 0, 1) := by decide +kernel
theorem dX7_begins_14 : decode cX7_begins 14 = .ok (.getfield 259, 3) := by decide +kernel
theorem dX7_begins_17 : decode cX7_begins 17 = .ok (.iload_n 1, 1) := by decide +kernel
theorem dX7_begins_18 : decode cX7_begins 18 = .ok (.iastore, 1) := by decide +kernel
theorem dX7_begins_19 : decode cX7_begins 19 = .ok (.aload_n 0, 1) := by decide +kernel
theorem dX7_begins_20 : decode cX7_begins 20 = .ok (.dup, 1) := by decide +kernel
theorem dX7_begins_21 : decode cX7_begins 21 = .ok (.getfield 259, 3) := by decide +kernel
theorem dX7_begins_24 : decode cX7_begins 24 = .ok (.iconst 1, 1) := by decide +kernel
theorem dX7_begins_25 : decode cX7_begins 25 = .ok (.iadd, 1) := by decide +kernel
theorem dX7_begins_26 : decode cX7_begins 26 = .ok (.putfield 259, 3) := by decide +kernel
theorem dX7_begins_29 : decode cX7_begins 29 = .ok (.return_, 1) := by decide +kernel
theorem dX7_ten_0 : decode cX7_ten 0 = .ok (.aload_n 0, 1) := by decide +kernel
theorem dX7_ten_1 : decode cX7_ten 1 = .ok (.bipush 10, 2) := by decide +kernel
theorem dX7_ten_3 : decode cX7_ten 3 = .ok (.invokevirtual 262, 3) := by decide +kernel
theorem dX7_ten_6 : decode cX7_ten 6 = .ok (.aload_n 0, 1) := by decide +kernel
theorem dX7_ten_7 : decode cX7_ten 7 = .ok (.getfield 25, 3) := by decide +kernel
theorem dX7_ten_10 : decode cX7_ten 10 = .ok (.bipush 33, 2) := by decide +kernel
theorem dX7_ten_12 : decode cX7_ten 12 = .ok (.iload_n 1, 1) := by decide +kernel
theorem dX7_ten_13 : decode cX7_ten 13 = .ok (.iadd, 1) := by decide +kernel
theorem dX7_ten_14 : decode cX7_ten 14 = .ok (.iaload, 1) := by decide +kernel
theorem dX7_ten_15 : decode cX7_ten 15 = .ok (.ireturn, 1) := by decide +kernel
theorem dX7_twenty_0 : decode cX7_twenty 0 = .ok (.aload_n 0, 1) := by decide +kernel
theorem dX7_twenty_1 : decode cX7_twenty 1 = .ok (.bipush 20, 2) := by decide +kernel
theorem dX7_twenty_3 : decode cX7_twenty 3 = .ok (.invokevirtual 262, 3) := by decide +kernel
theorem dX7_twenty_6 : decode cX7_twenty 6 = .ok (.iload_n 1, 1) := by decide +kernel
theorem dX7_twenty_7 : decode cX7_twenty 7 = .ok (.ireturn, 1) := by decide +kernel
theorem dX7_twentyOne_0 : decode cX7_twentyOne 0 = .ok (.aload_n 0, 1) := by decide +kernel
theorem dX7_twentyOne_1 : decode cX7_twentyOne 1 = .ok (.bipush 21, 2) := by decide +kernel
theorem dX7_twentyOne_3 : decode cX7_twentyOne 3 = .ok (.invokevirtual 262, 3) := by decide +kernel
theorem dX7_twentyOne_6 : decode cX7_twentyOne 6 = .ok (.aload_n 0, 1) := by decide +kernel
theorem dX7_twentyOne_7 : decode cX7_twentyOne 7 = .ok (.iload_n 1, 1) := by decide +kernel
theorem dX7_twentyOne_8 : decode cX7_twentyOne 8 = .ok (.invokevirtual 265, 3) := by decide +kernel
theorem dX7_twentyOne_11 : decode cX7_twentyOne 11 = .ok (.aload_n 0, 1) := by decide +kernel
theorem dX7_twentyOne_12 : decode cX7_twentyOne 12 = .ok (.getfield 25, 3) := by decide +kernel
theorem dX7_twentyOne_15 : decode cX7_twentyOne 15 = .ok (.iconst 1, 1) := by decide +kernel
theorem dX7_twentyOne_16 : decode cX7_twentyOne 16 = .ok (.iload_n 1, 1) := by decide +kernel
theorem dX7_twentyOne_17 : decode cX7_twentyOne 17 = .ok (.iadd, 1) := by decide +kernel
theorem dX7_twentyOne_18 : decode cX7_twentyOne 18 = .ok (.iaload, 1) := by decide +kernel
theorem dX7_twentyOne_19 : decode cX7_twentyOne 19 = .ok (.iadd, 1) := by decide +kernel
theorem dX7_twentyOne_20 : decode cX7_twentyOne 20 = .ok (.ireturn, 1) := by decide +kernel
theorem dX7_gateMark_0 : decode cX7_gateMark 0 = .ok (.aload_n 0, 1) := by decide +kernel
theorem dX7_gateMark_1 : decode cX7_gateMark 1 = .ok (.getfield 22, 3) := by decide +kernel
theorem dX7_gateMark_4 : decode cX7_gateMark 4 = .ok (.iload_n 1, 1) := by decide +kernel
theorem dX7_gateMark_5 : decode cX7_gateMark 5 = .ok (.iaload, 1) := by decide +kernel
theorem dX7_gateMark_6 : decode cX7_gateMark 6 = .ok (.iconst 3, 1) := by decide +kernel
theorem dX7_gateMark_7 : decode cX7_gateMark 7 = .ok (.if_icmp .ne 19, 3) := by decide +kernel
theorem dX7_gateMark_10 : decode cX7_gateMark 10 = .ok (.aload_n 0, 1) := by decide +kernel
theorem dX7_gateMark_11 : decode cX7_gateMark 11 = .ok (.bipush 22, 2) := by decide +kernel
theorem dX7_gateMark_13 : decode cX7_gateMark 13 = .ok (.invokevirtual 262, 3) := by decide +kernel
theorem dX7_gateMark_16 : decode cX7_gateMark 16 = .ok (.aload_n 0, 1) := by decide +kernel
theorem dX7_gateMark_17 : decode cX7_gateMark 17 = .ok (.iload_n 1, 1) := by decide +kernel
theorem dX7_gateMark_18 : decode cX7_gateMark 18 = .ok (.invokevirtual 268, 3) := by decide +kernel
theorem dX7_gateMark_21 : decode cX7_gateMark 21 = .ok (.sipush 1000, 3) := by decide +kernel
theorem dX7_gateMark_24 : decode cX7_gateMark 24 = .ok (.isub, 1) := by decide +kernel
theorem dX7_gateMark_25 : decode cX7_gateMark 25 = .ok (.ireturn, 1) := by decide +kernel
theorem dX7_gateMark_26 : decode cX7_gateMark 26 = .ok (.aload_n 0, 1) := by decide +kernel
theorem dX7_gateMark_27 : decode cX7_gateMark 27 = .ok (.getfield 22, 3) := by decide +kernel
theorem dX7_gateMark_30 : decode cX7_gateMark 30 = .ok (.iload_n 1, 1) := by decide +kernel
theorem dX7_gateMark_31 : decode cX7_gateMark 31 = .ok (.iaload, 1) := by decide +kernel
theorem dX7_gateMark_32 : decode cX7_gateMark 32 = .ok (.iconst 2, 1) := by decide +kernel
theorem dX7_gateMark_33 : decode cX7_gateMark 33 = .ok (.if_icmp .ne 17, 3) := by decide +kernel
theorem dX7_gateMark_36 : decode cX7_gateMark 36 = .ok (.aload_n 0, 1) := by decide +kernel
theorem dX7_gateMark_37 : decode cX7_gateMark 37 = .ok (.bipush 24, 2) := by decide +kernel
theorem dX7_gateMark_39 : decode cX7_gateMark 39 = .ok (.invokevirtual 262, 3) := by decide +kernel
theorem dX7_gateMark_42 : decode cX7_gateMark 42 = .ok (.iconst 2, 1) := by decide +kernel
theorem dX7_gateMark_43 : decode cX7_gateMark 43 = .ok (.aload_n 0, 1) := by decide +kernel
theorem dX7_gateMark_44 : decode cX7_gateMark 44 = .ok (.iload_n 1, 1) := by decide +kernel
theorem dX7_gateMark_45 : decode cX7_gateMark 45 = .ok (.invokevirtual 268, 3) := by decide +kernel
theorem dX7_gateMark_48 : decode cX7_gateMark 48 = .ok (.imul, 1) := by decide +kernel
theorem dX7_gateMark_49 : decode cX7_gateMark 49 = .ok (.ireturn, 1) := by decide +kernel
theorem dX7_gateMark_50 : decode cX7_gateMark 50 = .ok (.aload_n 0, 1) := by decide +kernel
theorem dX7_gateMark_51 : decode cX7_gateMark 51 = .ok (.iload_n 1, 1) := by decide +kernel
theorem dX7_gateMark_52 : decode cX7_gateMark 52 = .ok (.invokevirtual 268, 3) := by decide +kernel
theorem dX7_gateMark_55 : decode cX7_gateMark 55 = .ok (.ireturn, 1) := by decide +kernel
theorem dX7_gateSize_0 : decode cX7_gateSize 0 = .ok (.aload_n 0, 1) := by decide +kernel
theorem dX7_gateSize_1 : decode cX7_gateSize 1 = .ok (.getfield 22, 3) := by decide +kernel
theorem dX7_gateSize_4 : decode cX7_gateSize 4 = .ok (.iload_n 1, 1) := by decide +kernel
theorem dX7_gateSize_5 : decode cX7_gateSize 5 = .ok (.iaload, 1) := by decide +kernel
theorem dX7_gateSize_6 : decode cX7_gateSize 6 = .ok (.iconst 2, 1) := by decide +kernel
theorem dX7_gateSize_7 : decode cX7_gateSize 7 = .ok (.if_icmp .ne 9, 3) := by decide +kernel
theorem dX7_gateSize_10 : decode cX7_gateSize 10 = .ok (.aload_n 0, 1) := by decide +kernel
theorem dX7_gateSize_11 : decode cX7_gateSize 11 = .ok (.bipush 12, 2) := by decide +kernel
theorem dX7_gateSize_13 : decode cX7_gateSize 13 = .ok (.invokevirtual 262, 3) := by decide +kernel
theorem dX7_gateSize_16 : decode cX7_gateSize 16 = .ok (.aload_n 0, 1) := by decide +kernel
theorem dX7_gateSize_17 : decode cX7_gateSize 17 = .ok (.bipush 11, 2) := by decide +kernel
theorem dX7_gateSize_19 : decode cX7_gateSize 19 = .ok (.invokevirtual 262, 3) := by decide +kernel
theorem dX7_gateSize_22 : decode cX7_gateSize 22 = .ok (.aload_n 0, 1) := by decide +kernel
theorem dX7_gateSize_23 : decode cX7_gateSize 23 = .ok (.iload_n 1, 1) := by decide +kernel
theorem dX7_gateSize_24 : decode cX7_gateSize 24 = .ok (.invokevirtual 271, 3) := by decide +kernel
theorem dX7_gateSize_27 : decode cX7_gateSize 27 = .ok (.aload_n 0, 1) := by decide +kernel
theorem dX7_gateSize_28 : decode cX7_gateSize 28 = .ok (.iload_n 1, 1) := by decide +kernel
theorem dX7_gateSize_29 : decode cX7_gateSize 29 = .ok (.invokevirtual 274, 3) := by decide +kernel
theorem dX7_gateSize_32 : decode cX7_gateSize 32 = .ok (.iadd, 1) := by decide +kernel
theorem dX7_gateSize_33 : decode cX7_gateSize 33 = .ok (.istore_n 2, 1) := by decide +kernel
theorem dX7_gateSize_34 : decode cX7_gateSize 34 = .ok (.aload_n 0, 1) := by decide +kernel
theorem dX7_gateSize_35 : decode cX7_gateSize 35 = .ok (.getfield 22, 3) := by decide +kernel
theorem dX7_gateSize_38 : decode cX7_gateSize 38 = .ok (.iload_n 1, 1) := by decide +kernel
theorem dX7_gateSize_39 : decode cX7_gateSize 39 = .ok (.iaload, 1) := by decide +kernel
theorem dX7_gateSize_40 : decode cX7_gateSize 40 = .ok (.iconst 2, 1) := by decide +kernel
theorem dX7_gateSize_41 : decode cX7_gateSize 41 = .ok (.if_icmp .ne 8, 3) := by decide +kernel
theorem dX7_gateSize_44 : decode cX7_gateSize 44 = .ok (.iload_n 2, 1) := by decide +kernel
theorem dX7_gateSize_45 : decode cX7_gateSize 45 = .ok (.ineg, 1) := by decide +kernel
theorem dX7_gateSize_46 : decode cX7_gateSize 46 = .ok (.goto 4, 3) := by decide +kernel
theorem dX7_gateSize_49 : decode cX7_gateSize 49 = .ok (.iload_n 2, 1) := by decide +kernel
theorem dX7_gateSize_50 : decode cX7_gateSize 50 = .ok (.ireturn, 1) := by decide +kernel
theorem dX7_sillSize_0 : decode cX7_sillSize 0 = .ok (.aload_n 0, 1) := by decide +kernel
theorem dX7_sillSize_1 : decode cX7_sillSize 1 = .ok (.getfield 22, 3) := by decide +kernel
theorem dX7_sillSize_4 : decode cX7_sillSize 4 = .ok (.iload_n 1, 1) := by decide +kernel
theorem dX7_sillSize_5 : decode cX7_sillSize 5 = .ok (.iaload, 1) := by decide +kernel
theorem dX7_sillSize_6 : decode cX7_sillSize 6 = .ok (.iconst 5, 1) := by decide +kernel
theorem dX7_sillSize_7 : decode cX7_sillSize 7 = .ok (.if_icmp .ne 9, 3) := by decide +kernel
theorem dX7_sillSize_10 : decode cX7_sillSize 10 = .ok (.aload_n 0, 1) := by decide +kernel
theorem dX7_sillSize_11 : decode cX7_sillSize 11 = .ok (.bipush 14, 2) := by decide +kernel
theorem dX7_sillSize_13 : decode cX7_sillSize 13 = .ok (.invokevirtual 262, 3) := by decide +kernel
theorem dX7_sillSize_16 : decode cX7_sillSize 16 = .ok (.aload_n 0, 1) := by decide +kernel
theorem dX7_sillSize_17 : decode cX7_sillSize 17 = .ok (.bipush 13, 2) := by decide +kernel
theorem dX7_sillSize_19 : decode cX7_sillSize 19 = .ok (.invokevirtual 262, 3) := by decide +kernel
theorem dX7_sillSize_22 : decode cX7_sillSize 22 = .ok (.aload_n 0, 1) := by decide +kernel
theorem dX7_sillSize_23 : decode cX7_sillSize 23 = .ok (.iload_n 1, 1) := by decide +kernel
theorem dX7_sillSize_24 : decode cX7_sillSize 24 = .ok (.invokevirtual 271, 3) := by decide +kernel
theorem dX7_sillSize_27 : decode cX7_sillSize 27 = .ok (.bipush 100, 2) := by decide +kernel
theorem dX7_sillSize_29 : decode cX7_sillSize 29 = .ok (.isub, 1) := by decide +kernel
theorem dX7_sillSize_30 : decode cX7_sillSize 30 = .ok (.istore_n 2, 1) := by decide +kernel
theorem dX7_sillSize_31 : decode cX7_sillSize 31 = .ok (.aload_n 0, 1) := by decide +kernel
theorem dX7_sillSize_32 : decode cX7_sillSize 32 = .ok (.getfield 22, 3) := by decide +kernel
theorem dX7_sillSize_35 : decode cX7_sillSize 35 = .ok (.iload_n 1, 1) := by decide +kernel
theorem dX7_sillSize_36 : decode cX7_sillSize 36 = .ok (.iaload, 1) := by decide +kernel
theorem dX7_sillSize_37 : decode cX7_sillSize 37 = .ok (.iconst 5, 1) := by decide +kernel
theorem dX7_sillSize_38 : decode cX7_sillSize 38 = .ok (.if_icmp .ne 9, 3) := by decide +kernel
theorem dX7_sillSize_41 : decode cX7_sillSize 41 = .ok (.iconst 2, 1) := by decide +kernel
theorem dX7_sillSize_42 : decode cX7_sillSize 42 = .ok (.iload_n 2, 1) := by decide +kernel
theorem dX7_sillSize_43 : decode cX7_sillSize 43 = .ok (.imul, 1) := by decide +kernel
theorem dX7_sillSize_44 : decode cX7_sillSize 44 = .ok (.goto 4, 3) := by decide +kernel
theorem dX7_sillSize_47 : decode cX7_sillSize 47 = .ok (.iload_n 2, 1) := by decide +kernel
theorem dX7_sillSize_48 : decode cX7_sillSize 48 = .ok (.ireturn, 1) := by decide +kernel
theorem dX7_sillMark_0 : decode cX7_sillMark 0 = .ok (.aload_n 0, 1) := by decide +kernel
theorem dX7_sillMark_1 : decode cX7_sillMark 1 = .ok (.bipush 23, 2) := by decide +kernel
theorem dX7_sillMark_3 : decode cX7_sillMark 3 = .ok (.invokevirtual 262, 3) := by decide +kernel
theorem dX7_sillMark_6 : decode cX7_sillMark 6 = .ok (.aload_n 0, 1) := by decide +kernel
theorem dX7_sillMark_7 : decode cX7_sillMark 7 = .ok (.iload_n 1, 1) := by decide +kernel
theorem dX7_sillMark_8 : decode cX7_sillMark 8 = .ok (.invokevirtual 265, 3) := by decide +kernel
theorem dX7_sillMark_11 : decode cX7_sillMark 11 = .ok (.istore_n 2, 1) := by decide +kernel
theorem dX7_sillMark_12 : decode cX7_sillMark 12 = .ok (.iload_n 2, 1) := by decide +kernel
theorem dX7_sillMark_13 : decode cX7_sillMark 13 = .ok (.aload_n 0, 1) := by decide +kernel
theorem dX7_sillMark_14 : decode cX7_sillMark 14 = .ok (.iload_n 1, 1) := by decide +kernel
theorem dX7_sillMark_15 : decode cX7_sillMark 15 = .ok (.invokevirtual 277, 3) := by decide +kernel
theorem dX7_sillMark_18 : decode cX7_sillMark 18 = .ok (.isub, 1) := by decide +kernel
theorem dX7_sillMark_19 : decode cX7_sillMark 19 = .ok (.ireturn, 1) := by decide +kernel
theorem dX7_ask_0 : decode cX7_ask 0 = .ok (.aload_n 0, 1) := by decide +kernel
theorem dX7_ask_1 : decode cX7_ask 1 = .ok (.iload_n 1, 1) := by decide +kernel
theorem dX7_ask_2 : decode cX7_ask 2 = .ok (.invokevirtual 189, 3) := by decide +kernel
theorem dX7_ask_5 : decode cX7_ask 5 = .ok (.ifCond .eq 12, 3) := by decide +kernel
theorem dX7_ask_8 : decode cX7_ask 8 = .ok (.iload_n 2, 1) := by decide +kernel
theorem dX7_ask_9 : decode cX7_ask 9 = .ok (.iconst 0, 1) := by decide +kernel
theorem dX7_ask_10 : decode cX7_ask 10 = .ok (.iconst 1, 1) := by decide +kernel
theorem dX7_ask_11 : decode cX7_ask 11 = .ok (.invokestatic 70, 3) := by decide +kernel
theorem dX7_ask_14 : decode cX7_ask 14 = .ok (.ifCond .ne 6, 3) := by decide +kernel
theorem dX7_ask_17 : decode cX7_ask 17 = .ok (.ldc 84, 2) := by decide +kernel
theorem dX7_ask_19 : decode cX7_ask 19 = .ok (.ireturn, 1) := by decide +kernel
theorem dX7_ask_20 : decode cX7_ask 20 = .ok (.aload_n 0, 1) := by decide +kernel
theorem dX7_ask_21 : decode cX7_ask 21 = .ok (.iconst 0, 1) := by decide +kernel
theorem dX7_ask_22 : decode cX7_ask 22 = .ok (.putfield 259, 3) := by decide +kernel
theorem dX7_ask_25 : decode cX7_ask 25 = .ok (.aload_n 0, 1) := by decide +kernel
theorem dX7_ask_26 : decode cX7_ask 26 = .ok (.getfield 22, 3) := by decide +kernel
theorem dX7_ask_29 : decode cX7_ask 29 = .ok (.iload_n 1, 1) := by decide +kernel
theorem dX7_ask_30 : decode cX7_ask 30 = .ok (.iaload, 1) := by decide +kernel
theorem dX7_ask_31 : decode cX7_ask 31 = .ok (.iconst 4, 1) := by decide +kernel
theorem dX7_ask_32 : decode cX7_ask 32 = .ok (.if_icmp .ge 21, 3) := by decide +kernel
theorem dX7_ask_35 : decode cX7_ask 35 = .ok (.iload_n 2, 1) := by decide +kernel
theorem dX7_ask_36 : decode cX7_ask 36 = .ok (.ifCond .ne 11, 3) := by decide +kernel
theorem dX7_ask_39 : decode cX7_ask 39 = .ok (.aload_n 0, 1) := by decide +kernel
theorem dX7_ask_40 : decode cX7_ask 40 = .ok (.iload_n 1, 1) := by decide +kernel
theorem dX7_ask_41 : decode cX7_ask 41 = .ok (.invokevirtual 280, 3) := by decide +kernel
theorem dX7_ask_44 : decode cX7_ask 44 = .ok (.goto 8, 3) := by decide +kernel
theorem dX7_ask_47 : decode cX7_ask 47 = .ok (.aload_n 0, 1) := by decide +kernel
theorem dX7_ask_48 : decode cX7_ask 48 = .ok (.iload_n 1, 1) := by decide +kernel
theorem dX7_ask_49 : decode cX7_ask 49 = .ok (.invokevirtual 274, 3) := by decide +kernel
theorem dX7_ask_52 : decode cX7_ask 52 = .ok (.ireturn, 1) := by decide +kernel
theorem dX7_ask_53 : decode cX7_ask 53 = .ok (.iload_n 2, 1) := by decide +kernel
theorem dX7_ask_54 : decode cX7_ask 54 = .ok (.ifCond .ne 11, 3) := by decide +kernel
theorem dX7_ask_57 : decode cX7_ask 57 = .ok (.aload_n 0, 1) := by decide +kernel
theorem dX7_ask_58 : decode cX7_ask 58 = .ok (.iload_n 1, 1) := by decide +kernel
theorem dX7_ask_59 : decode cX7_ask 59 = .ok (.invokevirtual 277, 3) := by decide +kernel
theorem dX7_ask_62 : decode cX7_ask 62 = .ok (.goto 8, 3) := by decide +kernel
theorem dX7_ask_65 : decode cX7_ask 65 = .ok (.aload_n 0, 1) := by decide +kernel
theorem dX7_ask_66 : decode cX7_ask 66 = .ok (.iload_n 1, 1) := by decide +kernel
theorem dX7_ask_67 : decode cX7_ask 67 = .ok (.invokevirtual 283, 3) := by decide +kernel
theorem dX7_ask_70 : decode cX7_ask 70 = .ok (.ireturn, 1) := by decide +kernel
theorem dX7_trace_0 : decode cX7_trace 0 = .ok (.iload_n 1, 1) := by decide +kernel
theorem dX7_trace_1 : decode cX7_trace 1 = .ok (.iconst 0, 1) := by decide +kernel
theorem dX7_trace_2 : decode cX7_trace 2 = .ok (.aload_n 0, 1) := by decide +kernel
theorem dX7_trace_3 : decode cX7_trace 3 = .ok (.getfield 259, 3) := by decide +kernel
theorem dX7_trace_6 : decode cX7_trace 6 = .ok (.iconst 1, 1) := by decide +kernel
theorem dX7_trace_7 : decode cX7_trace 7 = .ok (.isub, 1) := by decide +kernel
theorem dX7_trace_8 : decode cX7_trace 8 = .ok (.invokestatic 70, 3) := by decide +kernel
theorem dX7_trace_11 : decode cX7_trace 11 = .ok (.ifCond .eq 12, 3) := by decide +kernel
theorem dX7_trace_14 : decode cX7_trace 14 = .ok (.aload_n 0, 1) := by decide +kernel
theorem dX7_trace_15 : decode cX7_trace 15 = .ok (.getfield 44, 3) := by decide +kernel
theorem dX7_trace_18 : decode cX7_trace 18 = .ok (.iload_n 1, 1) := by decide +kernel
theorem dX7_trace_19 : decode cX7_trace 19 = .ok (.iaload, 1) := by decide +kernel
theorem dX7_trace_20 : decode cX7_trace 20 = .ok (.goto 5, 3) := by decide +kernel
theorem dX7_trace_23 : decode cX7_trace 23 = .ok (.ldc 135, 2) := by decide +kernel
theorem dX7_trace_25 : decode cX7_trace 25 = .ok (.ireturn, 1) := by decide +kernel
theorem dX7_rowsThere_0 : decode cX7_rowsThere 0 = .ok (.iconst 0, 1) := by decide +kernel
theorem dX7_rowsThere_1 : decode cX7_rowsThere 1 = .ok (.istore_n 1, 1) := by decide +kernel
theorem dX7_rowsThere_2 : decode cX7_rowsThere 2 = .ok (.iconst 0, 1) := by decide +kernel
theorem dX7_rowsThere_3 : decode cX7_rowsThere 3 = .ok (.istore_n 2, 1) := by decide +kernel
theorem dX7_rowsThere_4 : decode cX7_rowsThere 4 = .ok (.iload_n 2, 1) := by decide +kernel
theorem dX7_rowsThere_5 : decode cX7_rowsThere 5 = .ok (.bipush 8, 2) := by decide +kernel
theorem dX7_rowsThere_7 : decode cX7_rowsThere 7 = .ok (.if_icmp .ge 26, 3) := by decide +kernel
theorem dX7_rowsThere_10 : decode cX7_rowsThere 10 = .ok (.iload_n 1, 1) := by decide +kernel
theorem dX7_rowsThere_11 : decode cX7_rowsThere 11 = .ok (.aload_n 0, 1) := by decide +kernel
theorem dX7_rowsThere_12 : decode cX7_rowsThere 12 = .ok (.getfield 13, 3) := by decide +kernel
theorem dX7_rowsThere_15 : decode cX7_rowsThere 15 = .ok (.iload_n 2, 1) := by decide +kernel
theorem dX7_rowsThere_16 : decode cX7_rowsThere 16 = .ok (.iaload, 1) := by decide +kernel
theorem dX7_rowsThere_17 : decode cX7_rowsThere 17 = .ok (.ifCond .ge 7, 3) := by decide +kernel
theorem dX7_rowsThere_20 : decode cX7_rowsThere 20 = .ok (.iconst 0, 1) := by decide +kernel
theorem dX7_rowsThere_21 : decode cX7_rowsThere 21 = .ok (.goto 4, 3) := by decide +kernel
theorem dX7_rowsThere_24 : decode cX7_rowsThere 24 = .ok (.iconst 1, 1) := by decide +kernel
theorem dX7_rowsThere_25 : decode cX7_rowsThere 25 = .ok (.iadd, 1) := by decide +kernel
theorem dX7_rowsThere_26 : decode cX7_rowsThere 26 = .ok (.istore_n 1, 1) := by decide +kernel
theorem dX7_rowsThere_27 : decode cX7_rowsThere 27 = .ok (.iinc 2 1, 3) := by decide +kernel
theorem dX7_rowsThere_30 : decode cX7_rowsThere 30 = .ok (.goto (-26), 3) := by decide +kernel
theorem dX7_rowsThere_33 : decode cX7_rowsThere 33 = .ok (.iload_n 1, 1) := by decide +kernel
theorem dX7_rowsThere_34 : decode cX7_rowsThere 34 = .ok (.ireturn, 1) := by decide +kernel
theorem dX7_count_0 : decode cX7_count 0 = .ok (.iload_n 1, 1) := by decide +kernel
theorem dX7_count_1 : decode cX7_count 1 = .ok (.tableswitch 99 0 7 #[47, 52, 57, 62, 69, 84, 89, 94], 47) := by decide +kernel
theorem dX7_count_48 : decode cX7_count 48 = .ok (.aload_n 0, 1) := by decide +kernel
theorem dX7_count_49 : decode cX7_count 49 = .ok (.invokevirtual 286, 3) := by decide +kernel
theorem dX7_count_52 : decode cX7_count 52 = .ok (.ireturn, 1) := by decide +kernel
theorem dX7_count_53 : decode cX7_count 53 = .ok (.aload_n 0, 1) := by decide +kernel
theorem dX7_count_54 : decode cX7_count 54 = .ok (.getfield 77, 3) := by decide +kernel
theorem dX7_count_57 : decode cX7_count 57 = .ok (.ireturn, 1) := by decide +kernel
theorem dX7_count_58 : decode cX7_count 58 = .ok (.aload_n 0, 1) := by decide +kernel
theorem dX7_count_59 : decode cX7_count 59 = .ok (.getfield 74, 3) := by decide +kernel
theorem dX7_count_62 : decode cX7_count 62 = .ok (.ireturn, 1) := by decide +kernel
theorem dX7_count_63 : decode cX7_count 63 = .ok (.aload_n 0, 1) := by decide +kernel
theorem dX7_count_64 : decode cX7_count 64 = .ok (.getfield 25, 3) := by decide +kernel
theorem dX7_count_67 : decode cX7_count 67 = .ok (.iconst 0, 1) := by decide +kernel
theorem dX7_count_68 : decode cX7_count 68 = .ok (.iaload, 1) := by decide +kernel
theorem dX7_count_69 : decode cX7_count 69 = .ok (.ireturn, 1) := by decide +kernel
theorem dX7_count_70 : decode cX7_count 70 = .ok (.aload_n 0, 1) := by decide +kernel
theorem dX7_count_71 : decode cX7_count 71 = .ok (.aload_n 0, 1) := by decide +kernel
theorem dX7_count_72 : decode cX7_count 72 = .ok (.getfield 25, 3) := by decide +kernel
theorem dX7_count_75 : decode cX7_count 75 = .ok (.iconst 0, 1) := by decide +kernel
theorem dX7_count_76 : decode cX7_count 76 = .ok (.bipush 7, 2) := by decide +kernel
theorem dX7_count_78 : decode cX7_count 78 = .ok (.invokevirtual 185, 3) := by decide +kernel
theorem dX7_count_81 : decode cX7_count 81 = .ok (.invokestatic 217, 3) := by decide +kernel
theorem dX7_count_84 : decode cX7_count 84 = .ok (.ireturn, 1) := by decide +kernel
theorem dX7_count_85 : decode cX7_count 85 = .ok (.aload_n 0, 1) := by decide +kernel
theorem dX7_count_86 : decode cX7_count 86 = .ok (.invokevirtual 226, 3) := by decide +kernel
theorem dX7_count_89 : decode cX7_count 89 = .ok (.ireturn, 1) := by decide +kernel
theorem dX7_count_90 : decode cX7_count 90 = .ok (.aload_n 0, 1) := by decide +kernel
theorem dX7_count_91 : decode cX7_count 91 = .ok (.getfield 159, 3) := by decide +kernel
theorem dX7_count_94 : decode cX7_count 94 = .ok (.ireturn, 1) := by decide +kernel
theorem dX7_count_95 : decode cX7_count 95 = .ok (.aload_n 0, 1) := by decide +kernel
theorem dX7_count_96 : decode cX7_count 96 = .ok (.getfield 96, 3) := by decide +kernel
theorem dX7_count_99 : decode cX7_count 99 = .ok (.ireturn, 1) := by decide +kernel
theorem dX7_count_100 : decode cX7_count 100 = .ok (.ldc 84, 2) := by decide +kernel
theorem dX7_count_102 : decode cX7_count 102 = .ok (.ireturn, 1) := by decide +kernel
theorem dX7_status_0 : decode cX7_status 0 = .ok (.aload_n 0, 1) := by decide +kernel
theorem dX7_status_1 : decode cX7_status 1 = .ok (.getfield 65, 3) := by decide +kernel
theorem dX7_status_4 : decode cX7_status 4 = .ok (.ireturn, 1) := by decide +kernel
theorem dJ6_bitCount_0f7a4_0 : decode cJ6_bitCount_0f7a4 0 = .ok (.iload_n 0, 1) := by decide +kernel
theorem dJ6_bitCount_0f7a4_1 : decode cJ6_bitCount_0f7a4 1 = .ok (.iload_n 0, 1) := by decide +kernel
theorem dJ6_bitCount_0f7a4_2 : decode cJ6_bitCount_0f7a4 2 = .ok (.iconst 1, 1) := by decide +kernel
theorem dJ6_bitCount_0f7a4_3 : decode cJ6_bitCount_0f7a4 3 = .ok (.iushr, 1) := by decide +kernel
theorem dJ6_bitCount_0f7a4_4 : decode cJ6_bitCount_0f7a4 4 = .ok (.ldc_w 265, 3) := by decide +kernel
theorem dJ6_bitCount_0f7a4_7 : decode cJ6_bitCount_0f7a4 7 = .ok (.iand, 1) := by decide +kernel
theorem dJ6_bitCount_0f7a4_8 : decode cJ6_bitCount_0f7a4 8 = .ok (.isub, 1) := by decide +kernel
theorem dJ6_bitCount_0f7a4_9 : decode cJ6_bitCount_0f7a4 9 = .ok (.istore_n 0, 1) := by decide +kernel
theorem dJ6_bitCount_0f7a4_10 : decode cJ6_bitCount_0f7a4 10 = .ok (.iload_n 0, 1) := by decide +kernel
theorem dJ6_bitCount_0f7a4_11 : decode cJ6_bitCount_0f7a4 11 = .ok (.ldc_w 266, 3) := by decide +kernel
theorem dJ6_bitCount_0f7a4_14 : decode cJ6_bitCount_0f7a4 14 = .ok (.iand, 1) := by decide +kernel
theorem dJ6_bitCount_0f7a4_15 : decode cJ6_bitCount_0f7a4 15 = .ok (.iload_n 0, 1) := by decide +kernel
theorem dJ6_bitCount_0f7a4_16 : decode cJ6_bitCount_0f7a4 16 = .ok (.iconst 2, 1) := by decide +kernel
theorem dJ6_bitCount_0f7a4_17 : decode cJ6_bitCount_0f7a4 17 = .ok (.iushr, 1) := by decide +kernel
theorem dJ6_bitCount_0f7a4_18 : decode cJ6_bitCount_0f7a4 18 = .ok (.ldc_w 266, 3) := by decide +kernel
theorem dJ6_bitCount_0f7a4_21 : decode cJ6_bitCount_0f7a4 21 = .ok (.iand, 1) := by decide +kernel
theorem dJ6_bitCount_0f7a4_22 : decode cJ6_bitCount_0f7a4 22 = .ok (.iadd, 1) := by decide +kernel
theorem dJ6_bitCount_0f7a4_23 : decode cJ6_bitCount_0f7a4 23 = .ok (.istore_n 0, 1) := by decide +kernel
theorem dJ6_bitCount_0f7a4_24 : decode cJ6_bitCount_0f7a4 24 = .ok (.iload_n 0, 1) := by decide +kernel
theorem dJ6_bitCount_0f7a4_25 : decode cJ6_bitCount_0f7a4 25 = .ok (.iload_n 0, 1) := by decide +kernel
theorem dJ6_bitCount_0f7a4_26 : decode cJ6_bitCount_0f7a4 26 = .ok (.iconst 4, 1) := by decide +kernel
theorem dJ6_bitCount_0f7a4_27 : decode cJ6_bitCount_0f7a4 27 = .ok (.iushr, 1) := by decide +kernel
theorem dJ6_bitCount_0f7a4_28 : decode cJ6_bitCount_0f7a4 28 = .ok (.iadd, 1) := by decide +kernel
theorem dJ6_bitCount_0f7a4_29 : decode cJ6_bitCount_0f7a4 29 = .ok (.ldc_w 267, 3) := by decide +kernel
theorem dJ6_bitCount_0f7a4_32 : decode cJ6_bitCount_0f7a4 32 = .ok (.iand, 1) := by decide +kernel
theorem dJ6_bitCount_0f7a4_33 : decode cJ6_bitCount_0f7a4 33 = .ok (.istore_n 0, 1) := by decide +kernel
theorem dJ6_bitCount_0f7a4_34 : decode cJ6_bitCount_0f7a4 34 = .ok (.iload_n 0, 1) := by decide +kernel
theorem dJ6_bitCount_0f7a4_35 : decode cJ6_bitCount_0f7a4 35 = .ok (.iload_n 0, 1) := by decide +kernel
theorem dJ6_bitCount_0f7a4_36 : decode cJ6_bitCount_0f7a4 36 = .ok (.bipush 8, 2) := by decide +kernel
theorem dJ6_bitCount_0f7a4_38 : decode cJ6_bitCount_0f7a4 38 = .ok (.iushr, 1) := by decide +kernel
theorem dJ6_bitCount_0f7a4_39 : decode cJ6_bitCount_0f7a4 39 = .ok (.iadd, 1) := by decide +kernel
theorem dJ6_bitCount_0f7a4_40 : decode cJ6_bitCount_0f7a4 40 = .ok (.istore_n 0, 1) := by decide +kernel
theorem dJ6_bitCount_0f7a4_41 : decode cJ6_bitCount_0f7a4 41 = .ok (.iload_n 0, 1) := by decide +kernel
theorem dJ6_bitCount_0f7a4_42 : decode cJ6_bitCount_0f7a4 42 = .ok (.iload_n 0, 1) := by decide +kernel
theorem dJ6_bitCount_0f7a4_43 : decode cJ6_bitCount_0f7a4 43 = .ok (.bipush 16, 2) := by decide +kernel
theorem dJ6_bitCount_0f7a4_45 : decode cJ6_bitCount_0f7a4 45 = .ok (.iushr, 1) := by decide +kernel
theorem dJ6_bitCount_0f7a4_46 : decode cJ6_bitCount_0f7a4 46 = .ok (.iadd, 1) := by decide +kernel
theorem dJ6_bitCount_0f7a4_47 : decode cJ6_bitCount_0f7a4 47 = .ok (.istore_n 0, 1) := by decide +kernel
theorem dJ6_bitCount_0f7a4_48 : decode cJ6_bitCount_0f7a4 48 = .ok (.iload_n 0, 1) := by decide +kernel
theorem dJ6_bitCount_0f7a4_49 : decode cJ6_bitCount_0f7a4 49 = .ok (.bipush 63, 2) := by decide +kernel
theorem dJ6_bitCount_0f7a4_51 : decode cJ6_bitCount_0f7a4 51 = .ok (.iand, 1) := by decide +kernel
theorem dJ6_bitCount_0f7a4_52 : decode cJ6_bitCount_0f7a4 52 = .ok (.ireturn, 1) := by decide +kernel
theorem dJ9_max_7cf53_0 : decode cJ9_max_7cf53 0 = .ok (.iload_n 0, 1) := by decide +kernel
theorem dJ9_max_7cf53_1 : decode cJ9_max_7cf53 1 = .ok (.iload_n 1, 1) := by decide +kernel
theorem dJ9_max_7cf53_2 : decode cJ9_max_7cf53 2 = .ok (.if_icmp .lt 7, 3) := by decide +kernel
theorem dJ9_max_7cf53_5 : decode cJ9_max_7cf53 5 = .ok (.iload_n 0, 1) := by decide +kernel
theorem dJ9_max_7cf53_6 : decode cJ9_max_7cf53 6 = .ok (.goto 4, 3) := by decide +kernel
theorem dJ9_max_7cf53_9 : decode cJ9_max_7cf53 9 = .ok (.iload_n 1, 1) := by decide +kernel
theorem dJ9_max_7cf53_10 : decode cJ9_max_7cf53 10 = .ok (.ireturn, 1) := by decide +kernel
theorem dJ9_min_7cf53_0 : decode cJ9_min_7cf53 0 = .ok (.iload_n 0, 1) := by decide +kernel
theorem dJ9_min_7cf53_1 : decode cJ9_min_7cf53 1 = .ok (.iload_n 1, 1) := by decide +kernel
theorem dJ9_min_7cf53_2 : decode cJ9_min_7cf53 2 = .ok (.if_icmp .gt 7, 3) := by decide +kernel
theorem dJ9_min_7cf53_5 : decode cJ9_min_7cf53 5 = .ok (.iload_n 0, 1) := by decide +kernel
theorem dJ9_min_7cf53_6 : decode cJ9_min_7cf53 6 = .ok (.goto 4, 3) := by decide +kernel
theorem dJ9_min_7cf53_9 : decode cJ9_min_7cf53 9 = .ok (.iload_n 1, 1) := by decide +kernel
theorem dJ9_min_7cf53_10 : decode cJ9_min_7cf53 10 = .ok (.ireturn, 1) := by decide +kernel
theorem dJ7_fill_53178_0 : decode cJ7_fill_53178 0 = .ok (.iconst 0, 1) := by decide +kernel
theorem dJ7_fill_53178_1 : decode cJ7_fill_53178 1 = .ok (.istore_n 2, 1) := by decide +kernel
theorem dJ7_fill_53178_2 : decode cJ7_fill_53178 2 = .ok (.aload_n 0, 1) := by decide +kernel
theorem dJ7_fill_53178_3 : decode cJ7_fill_53178 3 = .ok (.arraylength, 1) := by decide +kernel
theorem dJ7_fill_53178_4 : decode cJ7_fill_53178 4 = .ok (.istore_n 3, 1) := by decide +kernel
theorem dJ7_fill_53178_5 : decode cJ7_fill_53178 5 = .ok (.iload_n 2, 1) := by decide +kernel
theorem dJ7_fill_53178_6 : decode cJ7_fill_53178 6 = .ok (.iload_n 3, 1) := by decide +kernel
theorem dJ7_fill_53178_7 : decode cJ7_fill_53178 7 = .ok (.if_icmp .ge 13, 3) := by decide +kernel
theorem dJ7_fill_53178_10 : decode cJ7_fill_53178 10 = .ok (.aload_n 0, 1) := by decide +kernel
theorem dJ7_fill_53178_11 : decode cJ7_fill_53178 11 = .ok (.iload_n 2, 1) := by decide +kernel
theorem dJ7_fill_53178_12 : decode cJ7_fill_53178 12 = .ok (.iload_n 1, 1) := by decide +kernel
theorem dJ7_fill_53178_13 : decode cJ7_fill_53178 13 = .ok (.iastore, 1) := by decide +kernel
theorem dJ7_fill_53178_14 : decode cJ7_fill_53178 14 = .ok (.iinc 2 1, 3) := by decide +kernel
theorem dJ7_fill_53178_17 : decode cJ7_fill_53178 17 = .ok (.goto (-12), 3) := by decide +kernel
theorem dJ7_fill_53178_20 : decode cJ7_fill_53178 20 = .ok (.return_, 1) := by decide +kernel
theorem dL_law_0 : decode cL_law 0 = .ok (.new 7, 3) := by decide +kernel
theorem dL_law_3 : decode cL_law 3 = .ok (.dup, 1) := by decide +kernel
theorem dL_law_4 : decode cL_law 4 = .ok (.invokespecial 9, 3) := by decide +kernel
theorem dL_law_7 : decode cL_law 7 = .ok (.astore_n 1, 1) := by decide +kernel
theorem dL_law_8 : decode cL_law 8 = .ok (.new 10, 3) := by decide +kernel
theorem dL_law_11 : decode cL_law 11 = .ok (.dup, 1) := by decide +kernel
theorem dL_law_12 : decode cL_law 12 = .ok (.invokespecial 12, 3) := by decide +kernel
theorem dL_law_15 : decode cL_law 15 = .ok (.astore_n 2, 1) := by decide +kernel
theorem dL_law_16 : decode cL_law 16 = .ok (.iconst 0, 1) := by decide +kernel
theorem dL_law_17 : decode cL_law 17 = .ok (.istore_n 3, 1) := by decide +kernel
theorem dL_law_18 : decode cL_law 18 = .ok (.iload_n 3, 1) := by decide +kernel
theorem dL_law_19 : decode cL_law 19 = .ok (.aload_n 0, 1) := by decide +kernel
theorem dL_law_20 : decode cL_law 20 = .ok (.arraylength, 1) := by decide +kernel
theorem dL_law_21 : decode cL_law 21 = .ok (.bipush 6, 2) := by decide +kernel
theorem dL_law_23 : decode cL_law 23 = .ok (.isub, 1) := by decide +kernel
theorem dL_law_24 : decode cL_law 24 = .ok (.if_icmp .gt 1397, 3) := by decide +kernel
theorem dL_law_27 : decode cL_law 27 = .ok (.aload_n 0, 1) := by decide +kernel
theorem dL_law_28 : decode cL_law 28 = .ok (.iload_n 3, 1) := by decide +kernel
theorem dL_law_29 : decode cL_law 29 = .ok (.iaload, 1) := by decide +kernel
theorem dL_law_30 : decode cL_law 30 = .ok (.bipush 63, 2) := by decide +kernel
theorem dL_law_32 : decode cL_law 32 = .ok (.iand, 1) := by decide +kernel
theorem dL_law_33 : decode cL_law 33 = .ok (.tableswitch 1382 0 37 #[167, 210, 253, 316, 339, 362, 375, 388, 401, 424, 447, 490, 523, 556, 589, 612, 645, 688, 721, 744, 757, 790, 823, 866, 899, 932, 965, 1028, 1091, 1145, 1188, 1211, 1234, 1257, 1290, 1323, 1346, 1369], 167) := by decide +kernel
theorem dL_law_200 : decode cL_law 200 = .ok (.aload_n 1, 1) := by decide +kernel
theorem dL_law_201 : decode cL_law 201 = .ok (.aload_n 0, 1) := by decide +kernel
theorem dL_law_202 : decode cL_law 202 = .ok (.iload_n 3, 1) := by decide +kernel
theorem dL_law_203 : decode cL_law 203 = .ok (.iconst 1, 1) := by decide +kernel
theorem dL_law_204 : decode cL_law 204 = .ok (.iadd, 1) := by decide +kernel
theorem dL_law_205 : decode cL_law 205 = .ok (.iaload, 1) := by decide +kernel
theorem dL_law_206 : decode cL_law 206 = .ok (.aload_n 0, 1) := by decide +kernel
theorem dL_law_207 : decode cL_law 207 = .ok (.iload_n 3, 1) := by decide +kernel
theorem dL_law_208 : decode cL_law 208 = .ok (.iconst 2, 1) := by decide +kernel
theorem dL_law_209 : decode cL_law 209 = .ok (.iadd, 1) := by decide +kernel
theorem dL_law_210 : decode cL_law 210 = .ok (.iaload, 1) := by decide +kernel
theorem dL_law_211 : decode cL_law 211 = .ok (.aload_n 0, 1) := by decide +kernel
theorem dL_law_212 : decode cL_law 212 = .ok (.iload_n 3, 1) := by decide +kernel
theorem dL_law_213 : decode cL_law 213 = .ok (.iconst 3, 1) := by decide +kernel
theorem dL_law_214 : decode cL_law 214 = .ok (.iadd, 1) := by decide +kernel
theorem dL_law_215 : decode cL_law 215 = .ok (.iaload, 1) := by decide +kernel
theorem dL_law_216 : decode cL_law 216 = .ok (.invokevirtual 13, 3) := by decide +kernel
theorem dL_law_219 : decode cL_law 219 = .ok (.aload_n 2, 1) := by decide +kernel
theorem dL_law_220 : decode cL_law 220 = .ok (.aload_n 0, 1) := by decide +kernel
theorem dL_law_221 : decode cL_law 221 = .ok (.iload_n 3, 1) := by decide +kernel
theorem dL_law_222 : decode cL_law 222 = .ok (.iconst 1, 1) := by decide +kernel
theorem dL_law_223 : decode cL_law 223 = .ok (.iadd, 1) := by decide +kernel
theorem dL_law_224 : decode cL_law 224 = .ok (.iaload, 1) := by decide +kernel
theorem dL_law_225 : decode cL_law 225 = .ok (.aload_n 0, 1) := by decide +kernel
theorem dL_law_226 : decode cL_law 226 = .ok (.iload_n 3, 1) := by decide +kernel
theorem dL_law_227 : decode cL_law 227 = .ok (.iconst 2, 1) := by decide +kernel
theorem dL_law_228 : decode cL_law 228 = .ok (.iadd, 1) := by decide +kernel
theorem dL_law_229 : decode cL_law 229 = .ok (.iaload, 1) := by decide +kernel
theorem dL_law_230 : decode cL_law 230 = .ok (.aload_n 0, 1) := by decide +kernel
theorem dL_law_231 : decode cL_law 231 = .ok (.iload_n 3, 1) := by decide +kernel
theorem dL_law_232 : decode cL_law 232 = .ok (.iconst 3, 1) := by decide +kernel
theorem dL_law_233 : decode cL_law 233 = .ok (.iadd, 1) := by decide +kernel
theorem dL_law_234 : decode cL_law 234 = .ok (.iaload, 1) := by decide +kernel
theorem dL_law_235 : decode cL_law 235 = .ok (.invokevirtual 17, 3) := by decide +kernel
theorem dL_law_238 : decode cL_law 238 = .ok (.if_icmp .eq 1177, 3) := by decide +kernel
theorem dL_law_241 : decode cL_law 241 = .ok (.iconst 0, 1) := by decide +kernel
theorem dL_law_242 : decode cL_law 242 = .ok (.ireturn, 1) := by decide +kernel
theorem dL_law_243 : decode cL_law 243 = .ok (.aload_n 1, 1) := by decide +kernel
theorem dL_law_244 : decode cL_law 244 = .ok (.aload_n 0, 1) := by decide +kernel
theorem dL_law_245 : decode cL_law 245 = .ok (.iload_n 3, 1) := by decide +kernel
theorem dL_law_246 : decode cL_law 246 = .ok (.iconst 1, 1) := by decide +kernel
theorem dL_law_247 : decode cL_law 247 = .ok (.iadd, 1) := by decide +kernel
theorem dL_law_248 : decode cL_law 248 = .ok (.iaload, 1) := by decide +kernel
theorem dL_law_249 : decode cL_law 249 = .ok (.aload_n 0, 1) := by decide +kernel
theorem dL_law_250 : decode cL_law 250 = .ok (.iload_n 3, 1) := by decide +kernel
theorem dL_law_251 : decode cL_law 251 = .ok (.iconst 2, 1) := by decide +kernel
theorem dL_law_252 : decode cL_law 252 = .ok (.iadd, 1) := by decide +kernel
theorem dL_law_253 : decode cL_law 253 = .ok (.iaload, 1) := by decide +kernel
theorem dL_law_254 : decode cL_law 254 = .ok (.aload_n 0, 1) := by decide +kernel
theorem dL_law_255 : decode cL_law 255 = .ok (.iload_n 3, 1) := by decide +kernel
theorem dL_law_256 : decode cL_law 256 = .ok (.iconst 3, 1) := by decide +kernel
theorem dL_law_257 : decode cL_law 257 = .ok (.iadd, 1) := by decide +kernel
theorem dL_law_258 : decode cL_law 258 = .ok (.iaload, 1) := by decide +kernel
theorem dL_law_259 : decode cL_law 259 = .ok (.invokevirtual 18, 3) := by decide +kernel
theorem dL_law_262 : decode cL_law 262 = .ok (.aload_n 2, 1) := by decide +kernel
theorem dL_law_263 : decode cL_law 263 = .ok (.aload_n 0, 1) := by decide +kernel
theorem dL_law_264 : decode cL_law 264 = .ok (.iload_n 3, 1) := by decide +kernel
theorem dL_law_265 : decode cL_law 265 = .ok (.iconst 1, 1) := by decide +kernel
theorem dL_law_266 : decode cL_law 266 = .ok (.iadd, 1) := by decide +kernel
theorem dL_law_267 : decode cL_law 267 = .ok (.iaload, 1) := by decide +kernel
theorem dL_law_268 : decode cL_law 268 = .ok (.aload_n 0, 1) := by decide +kernel
theorem dL_law_269 : decode cL_law 269 = .ok (.iload_n 3, 1) := by decide +kernel
theorem dL_law_270 : decode cL_law 270 = .ok (.iconst 2, 1) := by decide +kernel
theorem dL_law_271 : decode cL_law 271 = .ok (.iadd, 1) := by decide +kernel
theorem dL_law_272 : decode cL_law 272 = .ok (.iaload, 1) := by decide +kernel
theorem dL_law_273 : decode cL_law 273 = .ok (.aload_n 0, 1) := by decide +kernel
theorem dL_law_274 : decode cL_law 274 = .ok (.iload_n 3, 1) := by decide +kernel
theorem dL_law_275 : decode cL_law 275 = .ok (.iconst 3, 1) := by decide +kernel
theorem dL_law_276 : decode cL_law 276 = .ok (.iadd, 1) := by decide +kernel
theorem dL_law_277 : decode cL_law 277 = .ok (.iaload, 1) := by decide +kernel
theorem dL_law_278 : decode cL_law 278 = .ok (.invokevirtual 21, 3) := by decide +kernel
theorem dL_law_281 : decode cL_law 281 = .ok (.if_icmp .eq 1134, 3) := by decide +kernel
theorem dL_law_284 : decode cL_law 284 = .ok (.iconst 0, 1) := by decide +kernel
theorem dL_law_285 : decode cL_law 285 = .ok (.ireturn, 1) := by decide +kernel
theorem dL_law_286 : decode cL_law 286 = .ok (.aload_n 1, 1) := by decide +kernel
theorem dL_law_287 : decode cL_law 287 = .ok (.aload_n 0, 1) := by decide +kernel
theorem dL_law_288 : decode cL_law 288 = .ok (.iload_n 3, 1) := by decide +kernel
theorem dL_law_289 : decode cL_law 289 = .ok (.iconst 1, 1) := by decide +kernel
theorem dL_law_290 : decode cL_law 290 = .ok (.iadd, 1) := by decide +kernel
theorem dL_law_291 : decode cL_law 291 = .ok (.iaload, 1) := by decide +kernel
theorem dL_law_292 : decode cL_law 292 = .ok (.aload_n 0, 1) := by decide +kernel
theorem dL_law_293 : decode cL_law 293 = .ok (.iload_n 3, 1) := by decide +kernel
theorem dL_law_294 : decode cL_law 294 = .ok (.iconst 2, 1) := by decide +kernel
theorem dL_law_295 : decode cL_law 295 = .ok (.iadd, 1) := by decide +kernel
theorem dL_law_296 : decode cL_law 296 = .ok (.iaload, 1) := by decide +kernel
theorem dL_law_297 : decode cL_law 297 = .ok (.aload_n 0, 1) := by decide +kernel
theorem dL_law_298 : decode cL_law 298 = .ok (.iload_n 3, 1) := by decide +kernel
theorem dL_law_299 : decode cL_law 299 = .ok (.iconst 3, 1) := by decide +kernel
theorem dL_law_300 : decode cL_law 300 = .ok (.iadd, 1) := by decide +kernel
theorem dL_law_301 : decode cL_law 301 = .ok (.iaload, 1) := by decide +kernel
theorem dL_law_302 : decode cL_law 302 = .ok (.aload_n 0, 1) := by decide +kernel
theorem dL_law_303 : decode cL_law 303 = .ok (.iload_n 3, 1) := by decide +kernel
theorem dL_law_304 : decode cL_law 304 = .ok (.iconst 4, 1) := by decide +kernel
theorem dL_law_305 : decode cL_law 305 = .ok (.iadd, 1) := by decide +kernel
theorem dL_law_306 : decode cL_law 306 = .ok (.iaload, 1) := by decide +kernel
theorem dL_law_307 : decode cL_law 307 = .ok (.aload_n 0, 1) := by decide +kernel
theorem dL_law_308 : decode cL_law 308 = .ok (.iload_n 3, 1) := by decide +kernel
theorem dL_law_309 : decode cL_law 309 = .ok (.iconst 5, 1) := by decide +kernel
theorem dL_law_310 : decode cL_law 310 = .ok (.iadd, 1) := by decide +kernel
theorem dL_law_311 : decode cL_law 311 = .ok (.iaload, 1) := by decide +kernel
theorem dL_law_312 : decode cL_law 312 = .ok (.invokevirtual 22, 3) := by decide +kernel
theorem dL_law_315 : decode cL_law 315 = .ok (.aload_n 2, 1) := by decide +kernel
theorem dL_law_316 : decode cL_law 316 = .ok (.aload_n 0, 1) := by decide +kernel
theorem dL_law_317 : decode cL_law 317 = .ok (.iload_n 3, 1) := by decide +kernel
theorem dL_law_318 : decode cL_law 318 = .ok (.iconst 1, 1) := by decide +kernel
theorem dL_law_319 : decode cL_law 319 = .ok (.iadd, 1) := by decide +kernel
theorem dL_law_320 : decode cL_law 320 = .ok (.iaload, 1) := by decide +kernel
theorem dL_law_321 : decode cL_law 321 = .ok (.aload_n 0, 1) := by decide +kernel
theorem dL_law_322 : decode cL_law 322 = .ok (.iload_n 3, 1) := by decide +kernel
theorem dL_law_323 : decode cL_law 323 = .ok (.iconst 2, 1) := by decide +kernel
theorem dL_law_324 : decode cL_law 324 = .ok (.iadd, 1) := by decide +kernel
theorem dL_law_325 : decode cL_law 325 = .ok (.iaload, 1) := by decide +kernel
theorem dL_law_326 : decode cL_law 326 = .ok (.aload_n 0, 1) := by decide +kernel
theorem dL_law_327 : decode cL_law 327 = .ok (.iload_n 3, 1) := by decide +kernel
theorem dL_law_328 : decode cL_law 328 = .ok (.iconst 3, 1) := by decide +kernel
theorem dL_law_329 : decode cL_law 329 = .ok (.iadd, 1) := by decide +kernel
theorem dL_law_330 : decode cL_law 330 = .ok (.iaload, 1) := by decide +kernel
theorem dL_law_331 : decode cL_law 331 = .ok (.aload_n 0, 1) := by decide +kernel
theorem dL_law_332 : decode cL_law 332 = .ok (.iload_n 3, 1) := by decide +kernel
theorem dL_law_333 : decode cL_law 333 = .ok (.iconst 4, 1) := by decide +kernel
theorem dL_law_334 : decode cL_law 334 = .ok (.iadd, 1) := by decide +kernel
theorem dL_law_335 : decode cL_law 335 = .ok (.iaload, 1) := by decide +kernel
theorem dL_law_336 : decode cL_law 336 = .ok (.aload_n 0, 1) := by decide +kernel
theorem dL_law_337 : decode cL_law 337 = .ok (.iload_n 3, 1) := by decide +kernel
theorem dL_law_338 : decode cL_law 338 = .ok (.iconst 5, 1) := by decide +kernel
theorem dL_law_339 : decode cL_law 339 = .ok (.iadd, 1) := by decide +kernel
theorem dL_law_340 : decode cL_law 340 = .ok (.iaload, 1) := by decide +kernel
theorem dL_law_341 : decode cL_law 341 = .ok (.invokevirtual 26, 3) := by decide +kernel
theorem dL_law_344 : decode cL_law 344 = .ok (.if_icmp .eq 1071, 3) := by decide +kernel
theorem dL_law_347 : decode cL_law 347 = .ok (.iconst 0, 1) := by decide +kernel
theorem dL_law_348 : decode cL_law 348 = .ok (.ireturn, 1) := by decide +kernel
theorem dL_law_349 : decode cL_law 349 = .ok (.aload_n 1, 1) := by decide +kernel
theorem dL_law_350 : decode cL_law 350 = .ok (.aload_n 0, 1) := by decide +kernel
theorem dL_law_351 : decode cL_law 351 = .ok (.iload_n 3, 1) := by decide +kernel
theorem dL_law_352 : decode cL_law 352 = .ok (.iconst 1, 1) := by decide +kernel
theorem dL_law_353 : decode cL_law 353 = .ok (.iadd, 1) := by decide +kernel
theorem dL_law_354 : decode cL_law 354 = .ok (.iaload, 1) := by decide +kernel
theorem dL_law_355 : decode cL_law 355 = .ok (.invokevirtual 27, 3) := by decide +kernel
theorem dL_law_358 : decode cL_law 358 = .ok (.aload_n 2, 1) := by decide +kernel
theorem dL_law_359 : decode cL_law 359 = .ok (.aload_n 0, 1) := by decide +kernel
theorem dL_law_360 : decode cL_law 360 = .ok (.iload_n 3, 1) := by decide +kernel
theorem dL_law_361 : decode cL_law 361 = .ok (.iconst 1, 1) := by decide +kernel
theorem dL_law_362 : decode cL_law 362 = .ok (.iadd, 1) := by decide +kernel
theorem dL_law_363 : decode cL_law 363 = .ok (.iaload, 1) := by decide +kernel
theorem dL_law_364 : decode cL_law 364 = .ok (.invokevirtual 31, 3) := by decide +kernel
theorem dL_law_367 : decode cL_law 367 = .ok (.if_icmp .eq 1048, 3) := by decide +kernel
theorem dL_law_370 : decode cL_law 370 = .ok (.iconst 0, 1) := by decide +kernel
theorem dL_law_371 : decode cL_law 371 = .ok (.ireturn, 1) := by decide +kernel
theorem dL_law_372 : decode cL_law 372 = .ok (.aload_n 1, 1) := by decide +kernel
theorem dL_law_373 : decode cL_law 373 = .ok (.aload_n 0, 1) := by decide +kernel
theorem dL_law_374 : decode cL_law 374 = .ok (.iload_n 3, 1) := by decide +kernel
theorem dL_law_375 : decode cL_law 375 = .ok (.iconst 1, 1) := by decide +kernel
theorem dL_law_376 : decode cL_law 376 = .ok (.iadd, 1) := by decide +kernel
theorem dL_law_377 : decode cL_law 377 = .ok (.iaload, 1) := by decide +kernel
theorem dL_law_378 : decode cL_law 378 = .ok (.invokevirtual 32, 3) := by decide +kernel
theorem dL_law_381 : decode cL_law 381 = .ok (.aload_n 2, 1) := by decide +kernel
theorem dL_law_382 : decode cL_law 382 = .ok (.aload_n 0, 1) := by decide +kernel
theorem dL_law_383 : decode cL_law 383 = .ok (.iload_n 3, 1) := by decide +kernel
theorem dL_law_384 : decode cL_law 384 = .ok (.iconst 1, 1) := by decide +kernel
theorem dL_law_385 : decode cL_law 385 = .ok (.iadd, 1) := by decide +kernel
theorem dL_law_386 : decode cL_law 386 = .ok (.iaload, 1) := by decide +kernel
theorem dL_law_387 : decode cL_law 387 = .ok (.invokevirtual 35, 3) := by decide +kernel
theorem dL_law_390 : decode cL_law 390 = .ok (.if_icmp .eq 1025, 3) := by decide +kernel
theorem dL_law_393 : decode cL_law 393 = .ok (.iconst 0, 1) := by decide +kernel
theorem dL_law_394 : decode cL_law 394 = .ok (.ireturn, 1) := by decide +kernel
theorem dL_law_395 : decode cL_law 395 = .ok (.aload_n 1, 1) := by decide +kernel
theorem dL_law_396 : decode cL_law 396 = .ok (.invokevirtual 36, 3) := by decide +kernel
theorem dL_law_399 : decode cL_law 399 = .ok (.aload_n 2, 1) := by decide +kernel
theorem dL_law_400 : decode cL_law 400 = .ok (.invokevirtual 40, 3) := by decide +kernel
theorem dL_law_403 : decode cL_law 403 = .ok (.if_icmp .eq 1012, 3) := by decide +kernel
theorem dL_law_406 : decode cL_law 406 = .ok (.iconst 0, 1) := by decide +kernel
theorem dL_law_407 : decode cL_law 407 = .ok (.ireturn, 1) := by decide +kernel
theorem dL_law_408 : decode cL_law 408 = .ok (.aload_n 1, 1) := by decide +kernel
theorem dL_law_409 : decode cL_law 409 = .ok (.invokevirtual 41, 3) := by decide +kernel
theorem dL_law_412 : decode cL_law 412 = .ok (.aload_n 2, 1) := by decide +kernel
theorem dL_law_413 : decode cL_law 413 = .ok (.invokevirtual 44, 3) := by decide +kernel
theorem dL_law_416 : decode cL_law 416 = .ok (.if_icmp .eq 999, 3) := by decide +kernel
theorem dL_law_419 : decode cL_law 419 = .ok (.iconst 0, 1) := by decide +kernel
theorem dL_law_420 : decode cL_law 420 = .ok (.ireturn, 1) := by decide +kernel
theorem dL_law_421 : decode cL_law 421 = .ok (.aload_n 1, 1) := by decide +kernel
theorem dL_law_422 : decode cL_law 422 = .ok (.invokevirtual 45, 3) := by decide +kernel
theorem dL_law_425 : decode cL_law 425 = .ok (.aload_n 2, 1) := by decide +kernel
theorem dL_law_426 : decode cL_law 426 = .ok (.invokevirtual 48, 3) := by decide +kernel
theorem dL_law_429 : decode cL_law 429 = .ok (.if_icmp .eq 986, 3) := by decide +kernel
theorem dL_law_432 : decode cL_law 432 = .ok (.iconst 0, 1) := by decide +kernel
theorem dL_law_433 : decode cL_law 433 = .ok (.ireturn, 1) := by decide +kernel
theorem dL_law_434 : decode cL_law 434 = .ok (.aload_n 1, 1) := by decide +kernel
theorem dL_law_435 : decode cL_law 435 = .ok (.aload_n 0, 1) := by decide +kernel
theorem dL_law_436 : decode cL_law 436 = .ok (.iload_n 3, 1) := by decide +kernel
theorem dL_law_437 : decode cL_law 437 = .ok (.iconst 1, 1) := by decide +kernel
theorem dL_law_438 : decode cL_law 438 = .ok (.iadd, 1) := by decide +kernel
theorem dL_law_439 : decode cL_law 439 = .ok (.iaload, 1) := by decide +kernel
theorem dL_law_440 : decode cL_law 440 = .ok (.invokevirtual 49, 3) := by decide +kernel
theorem dL_law_443 : decode cL_law 443 = .ok (.aload_n 2, 1) := by decide +kernel
theorem dL_law_444 : decode cL_law 444 = .ok (.aload_n 0, 1) := by decide +kernel
theorem dL_law_445 : decode cL_law 445 = .ok (.iload_n 3, 1) := by decide +kernel
theorem dL_law_446 : decode cL_law 446 = .ok (.iconst 1, 1) := by decide +kernel
theorem dL_law_447 : decode cL_law 447 = .ok (.iadd, 1) := by decide +kernel
theorem dL_law_448 : decode cL_law 448 = .ok (.iaload, 1) := by decide +kernel
theorem dL_law_449 : decode cL_law 449 = .ok (.invokevirtual 52, 3) := by decide +kernel
theorem dL_law_452 : decode cL_law 452 = .ok (.if_icmp .eq 963, 3) := by decide +kernel
theorem dL_law_455 : decode cL_law 455 = .ok (.iconst 0, 1) := by decide +kernel
theorem dL_law_456 : decode cL_law 456 = .ok (.ireturn, 1) := by decide +kernel
theorem dL_law_457 : decode cL_law 457 = .ok (.aload_n 1, 1) := by decide +kernel
theorem dL_law_458 : decode cL_law 458 = .ok (.aload_n 0, 1) := by decide +kernel
theorem dL_law_459 : decode cL_law 459 = .ok (.iload_n 3, 1) := by decide +kernel
theorem dL_law_460 : decode cL_law 460 = .ok (.iconst 1, 1) := by decide +kernel
theorem dL_law_461 : decode cL_law 461 = .ok (.iadd, 1) := by decide +kernel
theorem dL_law_462 : decode cL_law 462 = .ok (.iaload, 1) := by decide +kernel
theorem dL_law_463 : decode cL_law 463 = .ok (.invokevirtual 53, 3) := by decide +kernel
theorem dL_law_466 : decode cL_law 466 = .ok (.aload_n 2, 1) := by decide +kernel
theorem dL_law_467 : decode cL_law 467 = .ok (.aload_n 0, 1) := by decide +kernel
theorem dL_law_468 : decode cL_law 468 = .ok (.iload_n 3, 1) := by decide +kernel
theorem dL_law_469 : decode cL_law 469 = .ok (.iconst 1, 1) := by decide +kernel
theorem dL_law_470 : decode cL_law 470 = .ok (.iadd, 1) := by decide +kernel
theorem dL_law_471 : decode cL_law 471 = .ok (.iaload, 1) := by decide +kernel
theorem dL_law_472 : decode cL_law 472 = .ok (.invokevirtual 56, 3) := by decide +kernel
theorem dL_law_475 : decode cL_law 475 = .ok (.if_icmp .eq 940, 3) := by decide +kernel
theorem dL_law_478 : decode cL_law 478 = .ok (.iconst 0, 1) := by decide +kernel
theorem dL_law_479 : decode cL_law 479 = .ok (.ireturn, 1) := by decide +kernel
theorem dL_law_480 : decode cL_law 480 = .ok (.aload_n 1, 1) := by decide +kernel
theorem dL_law_481 : decode cL_law 481 = .ok (.aload_n 0, 1) := by decide +kernel
theorem dL_law_482 : decode cL_law 482 = .ok (.iload_n 3, 1) := by decide +kernel
theorem dL_law_483 : decode cL_law 483 = .ok (.iconst 1, 1) := by decide +kernel
theorem dL_law_484 : decode cL_law 484 = .ok (.iadd, 1) := by decide +kernel
theorem dL_law_485 : decode cL_law 485 = .ok (.iaload, 1) := by decide +kernel
theorem dL_law_486 : decode cL_law 486 = .ok (.aload_n 0, 1) := by decide +kernel
theorem dL_law_487 : decode cL_law 487 = .ok (.iload_n 3, 1) := by decide +kernel
theorem dL_law_488 : decode cL_law 488 = .ok (.iconst 2, 1) := by decide +kernel
theorem dL_law_489 : decode cL_law 489 = .ok (.iadd, 1) := by decide +kernel
theorem dL_law_490 : decode cL_law 490 = .ok (.iaload, 1) := by decide +kernel
theorem dL_law_491 : decode cL_law 491 = .ok (.aload_n 0, 1) := by decide +kernel
theorem dL_law_492 : decode cL_law 492 = .ok (.iload_n 3, 1) := by decide +kernel
theorem dL_law_493 : decode cL_law 493 = .ok (.iconst 3, 1) := by decide +kernel
theorem dL_law_494 : decode cL_law 494 = .ok (.iadd, 1) := by decide +kernel
theorem dL_law_495 : decode cL_law 495 = .ok (.iaload, 1) := by decide +kernel
theorem dL_law_496 : decode cL_law 496 = .ok (.invokevirtual 57, 3) := by decide +kernel
theorem dL_law_499 : decode cL_law 499 = .ok (.aload_n 2, 1) := by decide +kernel
theorem dL_law_500 : decode cL_law 500 = .ok (.aload_n 0, 1) := by decide +kernel
theorem dL_law_501 : decode cL_law 501 = .ok (.iload_n 3, 1) := by decide +kernel
theorem dL_law_502 : decode cL_law 502 = .ok (.iconst 1, 1) := by decide +kernel
theorem dL_law_503 : decode cL_law 503 = .ok (.iadd, 1) := by decide +kernel
theorem dL_law_504 : decode cL_law 504 = .ok (.iaload, 1) := by decide +kernel
theorem dL_law_505 : decode cL_law 505 = .ok (.aload_n 0, 1) := by decide +kernel
theorem dL_law_506 : decode cL_law 506 = .ok (.iload_n 3, 1) := by decide +kernel
theorem dL_law_507 : decode cL_law 507 = .ok (.iconst 2, 1) := by decide +kernel
theorem dL_law_508 : decode cL_law 508 = .ok (.iadd, 1) := by decide +kernel
theorem dL_law_509 : decode cL_law 509 = .ok (.iaload, 1) := by decide +kernel
theorem dL_law_510 : decode cL_law 510 = .ok (.aload_n 0, 1) := by decide +kernel
theorem dL_law_511 : decode cL_law 511 = .ok (.iload_n 3, 1) := by decide +kernel
theorem dL_law_512 : decode cL_law 512 = .ok (.iconst 3, 1) := by decide +kernel
theorem dL_law_513 : decode cL_law 513 = .ok (.iadd, 1) := by decide +kernel
theorem dL_law_514 : decode cL_law 514 = .ok (.iaload, 1) := by decide +kernel
theorem dL_law_515 : decode cL_law 515 = .ok (.invokevirtual 60, 3) := by decide +kernel
theorem dL_law_518 : decode cL_law 518 = .ok (.if_icmp .eq 897, 3) := by decide +kernel
theorem dL_law_521 : decode cL_law 521 = .ok (.iconst 0, 1) := by decide +kernel
theorem dL_law_522 : decode cL_law 522 = .ok (.ireturn, 1) := by decide +kernel
theorem dL_law_523 : decode cL_law 523 = .ok (.aload_n 1, 1) := by decide +kernel
theorem dL_law_524 : decode cL_law 524 = .ok (.aload_n 0, 1) := by decide +kernel
theorem dL_law_525 : decode cL_law 525 = .ok (.iload_n 3, 1) := by decide +kernel
theorem dL_law_526 : decode cL_law 526 = .ok (.iconst 1, 1) := by decide +kernel
theorem dL_law_527 : decode cL_law 527 = .ok (.iadd, 1) := by decide +kernel
theorem dL_law_528 : decode cL_law 528 = .ok (.iaload, 1) := by decide +kernel
theorem dL_law_529 : decode cL_law 529 = .ok (.aload_n 0, 1) := by decide +kernel
theorem dL_law_530 : decode cL_law 530 = .ok (.iload_n 3, 1) := by decide +kernel
theorem dL_law_531 : decode cL_law 531 = .ok (.iconst 2, 1) := by decide +kernel
theorem dL_law_532 : decode cL_law 532 = .ok (.iadd, 1) := by decide +kernel
theorem dL_law_533 : decode cL_law 533 = .ok (.iaload, 1) := by decide +kernel
theorem dL_law_534 : decode cL_law 534 = .ok (.invokevirtual 61, 3) := by decide +kernel
theorem dL_law_537 : decode cL_law 537 = .ok (.aload_n 2, 1) := by decide +kernel
theorem dL_law_538 : decode cL_law 538 = .ok (.aload_n 0, 1) := by decide +kernel
theorem dL_law_539 : decode cL_law 539 = .ok (.iload_n 3, 1) := by decide +kernel
theorem dL_law_540 : decode cL_law 540 = .ok (.iconst 1, 1) := by decide +kernel
theorem dL_law_541 : decode cL_law 541 = .ok (.iadd, 1) := by decide +kernel
theorem dL_law_542 : decode cL_law 542 = .ok (.iaload, 1) := by decide +kernel
theorem dL_law_543 : decode cL_law 543 = .ok (.aload_n 0, 1) := by decide +kernel
theorem dL_law_544 : decode cL_law 544 = .ok (.iload_n 3, 1) := by decide +kernel
theorem dL_law_545 : decode cL_law 545 = .ok (.iconst 2, 1) := by decide +kernel
theorem dL_law_546 : decode cL_law 546 = .ok (.iadd, 1) := by decide +kernel
theorem dL_law_547 : decode cL_law 547 = .ok (.iaload, 1) := by decide +kernel
theorem dL_law_548 : decode cL_law 548 = .ok (.invokevirtual 65, 3) := by decide +kernel
theorem dL_law_551 : decode cL_law 551 = .ok (.if_icmp .eq 864, 3) := by decide +kernel
theorem dL_law_554 : decode cL_law 554 = .ok (.iconst 0, 1) := by decide +kernel
theorem dL_law_555 : decode cL_law 555 = .ok (.ireturn, 1) := by decide +kernel
theorem dL_law_556 : decode cL_law 556 = .ok (.aload_n 1, 1) := by decide +kernel
theorem dL_law_557 : decode cL_law 557 = .ok (.aload_n 0, 1) := by decide +kernel
theorem dL_law_558 : decode cL_law 558 = .ok (.iload_n 3, 1) := by decide +kernel
theorem dL_law_559 : decode cL_law 559 = .ok (.iconst 1, 1) := by decide +kernel
theorem dL_law_560 : decode cL_law 560 = .ok (.iadd, 1) := by decide +kernel
theorem dL_law_561 : decode cL_law 561 = .ok (.iaload, 1) := by decide +kernel
theorem dL_law_562 : decode cL_law 562 = .ok (.aload_n 0, 1) := by decide +kernel
theorem dL_law_563 : decode cL_law 563 = .ok (.iload_n 3, 1) := by decide +kernel
theorem dL_law_564 : decode cL_law 564 = .ok (.iconst 2, 1) := by decide +kernel
theorem dL_law_565 : decode cL_law 565 = .ok (.iadd, 1) := by decide +kernel
theorem dL_law_566 : decode cL_law 566 = .ok (.iaload, 1) := by decide +kernel
theorem dL_law_567 : decode cL_law 567 = .ok (.invokevirtual 66, 3) := by decide +kernel
theorem dL_law_570 : decode cL_law 570 = .ok (.aload_n 2, 1) := by decide +kernel
theorem dL_law_571 : decode cL_law 571 = .ok (.aload_n 0, 1) := by decide +kernel
theorem dL_law_572 : decode cL_law 572 = .ok (.iload_n 3, 1) := by decide +kernel
theorem dL_law_573 : decode cL_law 573 = .ok (.iconst 1, 1) := by decide +kernel
theorem dL_law_574 : decode cL_law 574 = .ok (.iadd, 1) := by decide +kernel
theorem dL_law_575 : decode cL_law 575 = .ok (.iaload, 1) := by decide +kernel
theorem dL_law_576 : decode cL_law 576 = .ok (.aload_n 0, 1) := by decide +kernel
theorem dL_law_577 : decode cL_law 577 = .ok (.iload_n 3, 1) := by decide +kernel
theorem dL_law_578 : decode cL_law 578 = .ok (.iconst 2, 1) := by decide +kernel
theorem dL_law_579 : decode cL_law 579 = .ok (.iadd, 1) := by decide +kernel
theorem dL_law_580 : decode cL_law 580 = .ok (.iaload, 1) := by decide +kernel
theorem dL_law_581 : decode cL_law 581 = .ok (.invokevirtual 69, 3) := by decide +kernel
theorem dL_law_584 : decode cL_law 584 = .ok (.if_icmp .eq 831, 3) := by decide +kernel
theorem dL_law_587 : decode cL_law 587 = .ok (.iconst 0, 1) := by decide +kernel
theorem dL_law_588 : decode cL_law 588 = .ok (.ireturn, 1) := by decide +kernel
theorem dL_law_589 : decode cL_law 589 = .ok (.aload_n 1, 1) := by decide +kernel
theorem dL_law_590 : decode cL_law 590 = .ok (.aload_n 0, 1) := by decide +kernel
theorem dL_law_591 : decode cL_law 591 = .ok (.iload_n 3, 1) := by decide +kernel
theorem dL_law_592 : decode cL_law 592 = .ok (.iconst 1, 1) := by decide +kernel
theorem dL_law_593 : decode cL_law 593 = .ok (.iadd, 1) := by decide +kernel
theorem dL_law_594 : decode cL_law 594 = .ok (.iaload, 1) := by decide +kernel
theorem dL_law_595 : decode cL_law 595 = .ok (.aload_n 0, 1) := by decide +kernel
theorem dL_law_596 : decode cL_law 596 = .ok (.iload_n 3, 1) := by decide +kernel
theorem dL_law_597 : decode cL_law 597 = .ok (.iconst 2, 1) := by decide +kernel
theorem dL_law_598 : decode cL_law 598 = .ok (.iadd, 1) := by decide +kernel
theorem dL_law_599 : decode cL_law 599 = .ok (.iaload, 1) := by decide +kernel
theorem dL_law_600 : decode cL_law 600 = .ok (.invokevirtual 70, 3) := by decide +kernel
theorem dL_law_603 : decode cL_law 603 = .ok (.aload_n 2, 1) := by decide +kernel
theorem dL_law_604 : decode cL_law 604 = .ok (.aload_n 0, 1) := by decide +kernel
theorem dL_law_605 : decode cL_law 605 = .ok (.iload_n 3, 1) := by decide +kernel
theorem dL_law_606 : decode cL_law 606 = .ok (.iconst 1, 1) := by decide +kernel
theorem dL_law_607 : decode cL_law 607 = .ok (.iadd, 1) := by decide +kernel
theorem dL_law_608 : decode cL_law 608 = .ok (.iaload, 1) := by decide +kernel
theorem dL_law_609 : decode cL_law 609 = .ok (.aload_n 0, 1) := by decide +kernel
theorem dL_law_610 : decode cL_law 610 = .ok (.iload_n 3, 1) := by decide +kernel
theorem dL_law_611 : decode cL_law 611 = .ok (.iconst 2, 1) := by decide +kernel
theorem dL_law_612 : decode cL_law 612 = .ok (.iadd, 1) := by decide +kernel
theorem dL_law_613 : decode cL_law 613 = .ok (.iaload, 1) := by decide +kernel
theorem dL_law_614 : decode cL_law 614 = .ok (.invokevirtual 73, 3) := by decide +kernel
theorem dL_law_617 : decode cL_law 617 = .ok (.if_icmp .eq 798, 3) := by decide +kernel
theorem dL_law_620 : decode cL_law 620 = .ok (.iconst 0, 1) := by decide +kernel
theorem dL_law_621 : decode cL_law 621 = .ok (.ireturn, 1) := by decide +kernel
theorem dL_law_622 : decode cL_law 622 = .ok (.aload_n 1, 1) := by decide +kernel
theorem dL_law_623 : decode cL_law 623 = .ok (.aload_n 0, 1) := by decide +kernel
theorem dL_law_624 : decode cL_law 624 = .ok (.iload_n 3, 1) := by decide +kernel
theorem dL_law_625 : decode cL_law 625 = .ok (.iconst 1, 1) := by decide +kernel
theorem dL_law_626 : decode cL_law 626 = .ok (.iadd, 1) := by decide +kernel
theorem dL_law_627 : decode cL_law 627 = .ok (.iaload, 1) := by decide +kernel
theorem dL_law_628 : decode cL_law 628 = .ok (.invokevirtual 74, 3) := by decide +kernel
theorem dL_law_631 : decode cL_law 631 = .ok (.aload_n 2, 1) := by decide +kernel
theorem dL_law_632 : decode cL_law 632 = .ok (.aload_n 0, 1) := by decide +kernel
theorem dL_law_633 : decode cL_law 633 = .ok (.iload_n 3, 1) := by decide +kernel
theorem dL_law_634 : decode cL_law 634 = .ok (.iconst 1, 1) := by decide +kernel
theorem dL_law_635 : decode cL_law 635 = .ok (.iadd, 1) := by decide +kernel
theorem dL_law_636 : decode cL_law 636 = .ok (.iaload, 1) := by decide +kernel
theorem dL_law_637 : decode cL_law 637 = .ok (.invokevirtual 77, 3) := by decide +kernel
theorem dL_law_640 : decode cL_law 640 = .ok (.if_icmp .eq 775, 3) := by decide +kernel
theorem dL_law_643 : decode cL_law 643 = .ok (.iconst 0, 1) := by decide +kernel
theorem dL_law_644 : decode cL_law 644 = .ok (.ireturn, 1) := by decide +kernel
theorem dL_law_645 : decode cL_law 645 = .ok (.aload_n 1, 1) := by decide +kernel
theorem dL_law_646 : decode cL_law 646 = .ok (.aload_n 0, 1) := by decide +kernel
theorem dL_law_647 : decode cL_law 647 = .ok (.iload_n 3, 1) := by decide +kernel
theorem dL_law_648 : decode cL_law 648 = .ok (.iconst 1, 1) := by decide +kernel
theorem dL_law_649 : decode cL_law 649 = .ok (.iadd, 1) := by decide +kernel
theorem dL_law_650 : decode cL_law 650 = .ok (.iaload, 1) := by decide +kernel
theorem dL_law_651 : decode cL_law 651 = .ok (.aload_n 0, 1) := by decide +kernel
theorem dL_law_652 : decode cL_law 652 = .ok (.iload_n 3, 1) := by decide +kernel
theorem dL_law_653 : decode cL_law 653 = .ok (.iconst 2, 1) := by decide +kernel
theorem dL_law_654 : decode cL_law 654 = .ok (.iadd, 1) := by decide +kernel
theorem dL_law_655 : decode cL_law 655 = .ok (.iaload, 1) := by decide +kernel
theorem dL_law_656 : decode cL_law 656 = .ok (.invokevirtual 78, 3) := by decide +kernel
theorem dL_law_659 : decode cL_law 659 = .ok (.aload_n 2, 1) := by decide +kernel
theorem dL_law_660 : decode cL_law 660 = .ok (.aload_n 0, 1) := by decide +kernel
theorem dL_law_661 : decode cL_law 661 = .ok (.iload_n 3, 1) := by decide +kernel
theorem dL_law_662 : decode cL_law 662 = .ok (.iconst 1, 1) := by decide +kernel
theorem dL_law_663 : decode cL_law 663 = .ok (.iadd, 1) := by decide +kernel
theorem dL_law_664 : decode cL_law 664 = .ok (.iaload, 1) := by decide +kernel
theorem dL_law_665 : decode cL_law 665 = .ok (.aload_n 0, 1) := by decide +kernel
theorem dL_law_666 : decode cL_law 666 = .ok (.iload_n 3, 1) := by decide +kernel
theorem dL_law_667 : decode cL_law 667 = .ok (.iconst 2, 1) := by decide +kernel
theorem dL_law_668 : decode cL_law 668 = .ok (.iadd, 1) := by decide +kernel
theorem dL_law_669 : decode cL_law 669 = .ok (.iaload, 1) := by decide +kernel
theorem dL_law_670 : decode cL_law 670 = .ok (.invokevirtual 81, 3) := by decide +kernel
theorem dL_law_673 : decode cL_law 673 = .ok (.if_icmp .eq 742, 3) := by decide +kernel
theorem dL_law_676 : decode cL_law 676 = .ok (.iconst 0, 1) := by decide +kernel
theorem dL_law_677 : decode cL_law 677 = .ok (.ireturn, 1) := by decide +kernel
theorem dL_law_678 : decode cL_law 678 = .ok (.aload_n 1, 1) := by decide +kernel
theorem dL_law_679 : decode cL_law 679 = .ok (.aload_n 0, 1) := by decide +kernel
theorem dL_law_680 : decode cL_law 680 = .ok (.iload_n 3, 1) := by decide +kernel
theorem dL_law_681 : decode cL_law 681 = .ok (.iconst 1, 1) := by decide +kernel
theorem dL_law_682 : decode cL_law 682 = .ok (.iadd, 1) := by decide +kernel
theorem dL_law_683 : decode cL_law 683 = .ok (.iaload, 1) := by decide +kernel
theorem dL_law_684 : decode cL_law 684 = .ok (.aload_n 0, 1) := by decide +kernel
theorem dL_law_685 : decode cL_law 685 = .ok (.iload_n 3, 1) := by decide +kernel
theorem dL_law_686 : decode cL_law 686 = .ok (.iconst 2, 1) := by decide +kernel
theorem dL_law_687 : decode cL_law 687 = .ok (.iadd, 1) := by decide +kernel
theorem dL_law_688 : decode cL_law 688 = .ok (.iaload, 1) := by decide +kernel
theorem dL_law_689 : decode cL_law 689 = .ok (.aload_n 0, 1) := by decide +kernel
theorem dL_law_690 : decode cL_law 690 = .ok (.iload_n 3, 1) := by decide +kernel
theorem dL_law_691 : decode cL_law 691 = .ok (.iconst 3, 1) := by decide +kernel
theorem dL_law_692 : decode cL_law 692 = .ok (.iadd, 1) := by decide +kernel
theorem dL_law_693 : decode cL_law 693 = .ok (.iaload, 1) := by decide +kernel
theorem dL_law_694 : decode cL_law 694 = .ok (.invokevirtual 82, 3) := by decide +kernel
theorem dL_law_697 : decode cL_law 697 = .ok (.aload_n 2, 1) := by decide +kernel
theorem dL_law_698 : decode cL_law 698 = .ok (.aload_n 0, 1) := by decide +kernel
theorem dL_law_699 : decode cL_law 699 = .ok (.iload_n 3, 1) := by decide +kernel
theorem dL_law_700 : decode cL_law 700 = .ok (.iconst 1, 1) := by decide +kernel
theorem dL_law_701 : decode cL_law 701 = .ok (.iadd, 1) := by decide +kernel
theorem dL_law_702 : decode cL_law 702 = .ok (.iaload, 1) := by decide +kernel
theorem dL_law_703 : decode cL_law 703 = .ok (.aload_n 0, 1) := by decide +kernel
theorem dL_law_704 : decode cL_law 704 = .ok (.iload_n 3, 1) := by decide +kernel
theorem dL_law_705 : decode cL_law 705 = .ok (.iconst 2, 1) := by decide +kernel
theorem dL_law_706 : decode cL_law 706 = .ok (.iadd, 1) := by decide +kernel
theorem dL_law_707 : decode cL_law 707 = .ok (.iaload, 1) := by decide +kernel
theorem dL_law_708 : decode cL_law 708 = .ok (.aload_n 0, 1) := by decide +kernel
theorem dL_law_709 : decode cL_law 709 = .ok (.iload_n 3, 1) := by decide +kernel
theorem dL_law_710 : decode cL_law 710 = .ok (.iconst 3, 1) := by decide +kernel
theorem dL_law_711 : decode cL_law 711 = .ok (.iadd, 1) := by decide +kernel
theorem dL_law_712 : decode cL_law 712 = .ok (.iaload, 1) := by decide +kernel
theorem dL_law_713 : decode cL_law 713 = .ok (.invokevirtual 85, 3) := by decide +kernel
theorem dL_law_716 : decode cL_law 716 = .ok (.if_icmp .eq 699, 3) := by decide +kernel
theorem dL_law_719 : decode cL_law 719 = .ok (.iconst 0, 1) := by decide +kernel
theorem dL_law_720 : decode cL_law 720 = .ok (.ireturn, 1) := by decide +kernel
theorem dL_law_721 : decode cL_law 721 = .ok (.aload_n 1, 1) := by decide +kernel
theorem dL_law_722 : decode cL_law 722 = .ok (.aload_n 0, 1) := by decide +kernel
theorem dL_law_723 : decode cL_law 723 = .ok (.iload_n 3, 1) := by decide +kernel
theorem dL_law_724 : decode cL_law 724 = .ok (.iconst 1, 1) := by decide +kernel
theorem dL_law_725 : decode cL_law 725 = .ok (.iadd, 1) := by decide +kernel
theorem dL_law_726 : decode cL_law 726 = .ok (.iaload, 1) := by decide +kernel
theorem dL_law_727 : decode cL_law 727 = .ok (.aload_n 0, 1) := by decide +kernel
theorem dL_law_728 : decode cL_law 728 = .ok (.iload_n 3, 1) := by decide +kernel
theorem dL_law_729 : decode cL_law 729 = .ok (.iconst 2, 1) := by decide +kernel
theorem dL_law_730 : decode cL_law 730 = .ok (.iadd, 1) := by decide +kernel
theorem dL_law_731 : decode cL_law 731 = .ok (.iaload, 1) := by decide +kernel
theorem dL_law_732 : decode cL_law 732 = .ok (.invokevirtual 86, 3) := by decide +kernel
theorem dL_law_735 : decode cL_law 735 = .ok (.aload_n 2, 1) := by decide +kernel
theorem dL_law_736 : decode cL_law 736 = .ok (.aload_n 0, 1) := by decide +kernel
theorem dL_law_737 : decode cL_law 737 = .ok (.iload_n 3, 1) := by decide +kernel
theorem dL_law_738 : decode cL_law 738 = .ok (.iconst 1, 1) := by decide +kernel
theorem dL_law_739 : decode cL_law 739 = .ok (.iadd, 1) := by decide +kernel
theorem dL_law_740 : decode cL_law 740 = .ok (.iaload, 1) := by decide +kernel
theorem dL_law_741 : decode cL_law 741 = .ok (.aload_n 0, 1) := by decide +kernel
theorem dL_law_742 : decode cL_law 742 = .ok (.iload_n 3, 1) := by decide +kernel
theorem dL_law_743 : decode cL_law 743 = .ok (.iconst 2, 1) := by decide +kernel
theorem dL_law_744 : decode cL_law 744 = .ok (.iadd, 1) := by decide +kernel
theorem dL_law_745 : decode cL_law 745 = .ok (.iaload, 1) := by decide +kernel
theorem dL_law_746 : decode cL_law 746 = .ok (.invokevirtual 89, 3) := by decide +kernel
theorem dL_law_749 : decode cL_law 749 = .ok (.if_icmp .eq 666, 3) := by decide +kernel
theorem dL_law_752 : decode cL_law 752 = .ok (.iconst 0, 1) := by decide +kernel
theorem dL_law_753 : decode cL_law 753 = .ok (.ireturn, 1) := by decide +kernel
theorem dL_law_754 : decode cL_law 754 = .ok (.aload_n 1, 1) := by decide +kernel
theorem dL_law_755 : decode cL_law 755 = .ok (.aload_n 0, 1) := by decide +kernel
theorem dL_law_756 : decode cL_law 756 = .ok (.iload_n 3, 1) := by decide +kernel
theorem dL_law_757 : decode cL_law 757 = .ok (.iconst 1, 1) := by decide +kernel
theorem dL_law_758 : decode cL_law 758 = .ok (.iadd, 1) := by decide +kernel
theorem dL_law_759 : decode cL_law 759 = .ok (.iaload, 1) := by decide +kernel
theorem dL_law_760 : decode cL_law 760 = .ok (.invokevirtual 90, 3) := by decide +kernel
theorem dL_law_763 : decode cL_law 763 = .ok (.aload_n 2, 1) := by decide +kernel
theorem dL_law_764 : decode cL_law 764 = .ok (.aload_n 0, 1) := by decide +kernel
theorem dL_law_765 : decode cL_law 765 = .ok (.iload_n 3, 1) := by decide +kernel
theorem dL_law_766 : decode cL_law 766 = .ok (.iconst 1, 1) := by decide +kernel
theorem dL_law_767 : decode cL_law 767 = .ok (.iadd, 1) := by decide +kernel
theorem dL_law_768 : decode cL_law 768 = .ok (.iaload, 1) := by decide +kernel
theorem dL_law_769 : decode cL_law 769 = .ok (.invokevirtual 93, 3) := by decide +kernel
theorem dL_law_772 : decode cL_law 772 = .ok (.if_icmp .eq 643, 3) := by decide +kernel
theorem dL_law_775 : decode cL_law 775 = .ok (.iconst 0, 1) := by decide +kernel
theorem dL_law_776 : decode cL_law 776 = .ok (.ireturn, 1) := by decide +kernel
theorem dL_law_777 : decode cL_law 777 = .ok (.aload_n 1, 1) := by decide +kernel
theorem dL_law_778 : decode cL_law 778 = .ok (.invokevirtual 94, 3) := by decide +kernel
theorem dL_law_781 : decode cL_law 781 = .ok (.aload_n 2, 1) := by decide +kernel
theorem dL_law_782 : decode cL_law 782 = .ok (.invokevirtual 97, 3) := by decide +kernel
theorem dL_law_785 : decode cL_law 785 = .ok (.if_icmp .eq 630, 3) := by decide +kernel
theorem dL_law_788 : decode cL_law 788 = .ok (.iconst 0, 1) := by decide +kernel
theorem dL_law_789 : decode cL_law 789 = .ok (.ireturn, 1) := by decide +kernel
theorem dL_law_790 : decode cL_law 790 = .ok (.aload_n 1, 1) := by decide +kernel
theorem dL_law_791 : decode cL_law 791 = .ok (.aload_n 0, 1) := by decide +kernel
theorem dL_law_792 : decode cL_law 792 = .ok (.iload_n 3, 1) := by decide +kernel
theorem dL_law_793 : decode cL_law 793 = .ok (.iconst 1, 1) := by decide +kernel
theorem dL_law_794 : decode cL_law 794 = .ok (.iadd, 1) := by decide +kernel
theorem dL_law_795 : decode cL_law 795 = .ok (.iaload, 1) := by decide +kernel
theorem dL_law_796 : decode cL_law 796 = .ok (.aload_n 0, 1) := by decide +kernel
theorem dL_law_797 : decode cL_law 797 = .ok (.iload_n 3, 1) := by decide +kernel
theorem dL_law_798 : decode cL_law 798 = .ok (.iconst 2, 1) := by decide +kernel
theorem dL_law_799 : decode cL_law 799 = .ok (.iadd, 1) := by decide +kernel
theorem dL_law_800 : decode cL_law 800 = .ok (.iaload, 1) := by decide +kernel
theorem dL_law_801 : decode cL_law 801 = .ok (.invokevirtual 98, 3) := by decide +kernel
theorem dL_law_804 : decode cL_law 804 = .ok (.aload_n 2, 1) := by decide +kernel
theorem dL_law_805 : decode cL_law 805 = .ok (.aload_n 0, 1) := by decide +kernel
theorem dL_law_806 : decode cL_law 806 = .ok (.iload_n 3, 1) := by decide +kernel
theorem dL_law_807 : decode cL_law 807 = .ok (.iconst 1, 1) := by decide +kernel
theorem dL_law_808 : decode cL_law 808 = .ok (.iadd, 1) := by decide +kernel
theorem dL_law_809 : decode cL_law 809 = .ok (.iaload, 1) := by decide +kernel
theorem dL_law_810 : decode cL_law 810 = .ok (.aload_n 0, 1) := by decide +kernel
theorem dL_law_811 : decode cL_law 811 = .ok (.iload_n 3, 1) := by decide +kernel
theorem dL_law_812 : decode cL_law 812 = .ok (.iconst 2, 1) := by decide +kernel
theorem dL_law_813 : decode cL_law 813 = .ok (.iadd, 1) := by decide +kernel
theorem dL_law_814 : decode cL_law 814 = .ok (.iaload, 1) := by decide +kernel
theorem dL_law_815 : decode cL_law 815 = .ok (.invokevirtual 101, 3) := by decide +kernel
theorem dL_law_818 : decode cL_law 818 = .ok (.if_icmp .eq 597, 3) := by decide +kernel
theorem dL_law_821 : decode cL_law 821 = .ok (.iconst 0, 1) := by decide +kernel
theorem dL_law_822 : decode cL_law 822 = .ok (.ireturn, 1) := by decide +kernel
theorem dL_law_823 : decode cL_law 823 = .ok (.aload_n 1, 1) := by decide +kernel
theorem dL_law_824 : decode cL_law 824 = .ok (.aload_n 0, 1) := by decide +kernel
theorem dL_law_825 : decode cL_law 825 = .ok (.iload_n 3, 1) := by decide +kernel
theorem dL_law_826 : decode cL_law 826 = .ok (.iconst 1, 1) := by decide +kernel
theorem dL_law_827 : decode cL_law 827 = .ok (.iadd, 1) := by decide +kernel
theorem dL_law_828 : decode cL_law 828 = .ok (.iaload, 1) := by decide +kernel
theorem dL_law_829 : decode cL_law 829 = .ok (.aload_n 0, 1) := by decide +kernel
theorem dL_law_830 : decode cL_law 830 = .ok (.iload_n 3, 1) := by decide +kernel
theorem dL_law_831 : decode cL_law 831 = .ok (.iconst 2, 1) := by decide +kernel
theorem dL_law_832 : decode cL_law 832 = .ok (.iadd, 1) := by decide +kernel
theorem dL_law_833 : decode cL_law 833 = .ok (.iaload, 1) := by decide +kernel
theorem dL_law_834 : decode cL_law 834 = .ok (.invokevirtual 102, 3) := by decide +kernel
theorem dL_law_837 : decode cL_law 837 = .ok (.aload_n 2, 1) := by decide +kernel
theorem dL_law_838 : decode cL_law 838 = .ok (.aload_n 0, 1) := by decide +kernel
theorem dL_law_839 : decode cL_law 839 = .ok (.iload_n 3, 1) := by decide +kernel
theorem dL_law_840 : decode cL_law 840 = .ok (.iconst 1, 1) := by decide +kernel
theorem dL_law_841 : decode cL_law 841 = .ok (.iadd, 1) := by decide +kernel
theorem dL_law_842 : decode cL_law 842 = .ok (.iaload, 1) := by decide +kernel
theorem dL_law_843 : decode cL_law 843 = .ok (.aload_n 0, 1) := by decide +kernel
theorem dL_law_844 : decode cL_law 844 = .ok (.iload_n 3, 1) := by decide +kernel
theorem dL_law_845 : decode cL_law 845 = .ok (.iconst 2, 1) := by decide +kernel
theorem dL_law_846 : decode cL_law 846 = .ok (.iadd, 1) := by decide +kernel
theorem dL_law_847 : decode cL_law 847 = .ok (.iaload, 1) := by decide +kernel
theorem dL_law_848 : decode cL_law 848 = .ok (.invokevirtual 105, 3) := by decide +kernel
theorem dL_law_851 : decode cL_law 851 = .ok (.if_icmp .eq 564, 3) := by decide +kernel
theorem dL_law_854 : decode cL_law 854 = .ok (.iconst 0, 1) := by decide +kernel
theorem dL_law_855 : decode cL_law 855 = .ok (.ireturn, 1) := by decide +kernel
theorem dL_law_856 : decode cL_law 856 = .ok (.aload_n 1, 1) := by decide +kernel
theorem dL_law_857 : decode cL_law 857 = .ok (.aload_n 0, 1) := by decide +kernel
theorem dL_law_858 : decode cL_law 858 = .ok (.iload_n 3, 1) := by decide +kernel
theorem dL_law_859 : decode cL_law 859 = .ok (.iconst 1, 1) := by decide +kernel
theorem dL_law_860 : decode cL_law 860 = .ok (.iadd, 1) := by decide +kernel
theorem dL_law_861 : decode cL_law 861 = .ok (.iaload, 1) := by decide +kernel
theorem dL_law_862 : decode cL_law 862 = .ok (.aload_n 0, 1) := by decide +kernel
theorem dL_law_863 : decode cL_law 863 = .ok (.iload_n 3, 1) := by decide +kernel
theorem dL_law_864 : decode cL_law 864 = .ok (.iconst 2, 1) := by decide +kernel
theorem dL_law_865 : decode cL_law 865 = .ok (.iadd, 1) := by decide +kernel
theorem dL_law_866 : decode cL_law 866 = .ok (.iaload, 1) := by decide +kernel
theorem dL_law_867 : decode cL_law 867 = .ok (.aload_n 0, 1) := by decide +kernel
theorem dL_law_868 : decode cL_law 868 = .ok (.iload_n 3, 1) := by decide +kernel
theorem dL_law_869 : decode cL_law 869 = .ok (.iconst 3, 1) := by decide +kernel
theorem dL_law_870 : decode cL_law 870 = .ok (.iadd, 1) := by decide +kernel
theorem dL_law_871 : decode cL_law 871 = .ok (.iaload, 1) := by decide +kernel
theorem dL_law_872 : decode cL_law 872 = .ok (.invokevirtual 106, 3) := by decide +kernel
theorem dL_law_875 : decode cL_law 875 = .ok (.aload_n 2, 1) := by decide +kernel
theorem dL_law_876 : decode cL_law 876 = .ok (.aload_n 0, 1) := by decide +kernel
theorem dL_law_877 : decode cL_law 877 = .ok (.iload_n 3, 1) := by decide +kernel
theorem dL_law_878 : decode cL_law 878 = .ok (.iconst 1, 1) := by decide +kernel
theorem dL_law_879 : decode cL_law 879 = .ok (.iadd, 1) := by decide +kernel
theorem dL_law_880 : decode cL_law 880 = .ok (.iaload, 1) := by decide +kernel
theorem dL_law_881 : decode cL_law 881 = .ok (.aload_n 0, 1) := by decide +kernel
theorem dL_law_882 : decode cL_law 882 = .ok (.iload_n 3, 1) := by decide +kernel
theorem dL_law_883 : decode cL_law 883 = .ok (.iconst 2, 1) := by decide +kernel
theorem dL_law_884 : decode cL_law 884 = .ok (.iadd, 1) := by decide +kernel
theorem dL_law_885 : decode cL_law 885 = .ok (.iaload, 1) := by decide +kernel
theorem dL_law_886 : decode cL_law 886 = .ok (.aload_n 0, 1) := by decide +kernel
theorem dL_law_887 : decode cL_law 887 = .ok (.iload_n 3, 1) := by decide +kernel
theorem dL_law_888 : decode cL_law 888 = .ok (.iconst 3, 1) := by decide +kernel
theorem dL_law_889 : decode cL_law 889 = .ok (.iadd, 1) := by decide +kernel
theorem dL_law_890 : decode cL_law 890 = .ok (.iaload, 1) := by decide +kernel
theorem dL_law_891 : decode cL_law 891 = .ok (.invokevirtual 109, 3) := by decide +kernel
theorem dL_law_894 : decode cL_law 894 = .ok (.if_icmp .eq 521, 3) := by decide +kernel
theorem dL_law_897 : decode cL_law 897 = .ok (.iconst 0, 1) := by decide +kernel
theorem dL_law_898 : decode cL_law 898 = .ok (.ireturn, 1) := by decide +kernel
theorem dL_law_899 : decode cL_law 899 = .ok (.aload_n 1, 1) := by decide +kernel
theorem dL_law_900 : decode cL_law 900 = .ok (.aload_n 0, 1) := by decide +kernel
theorem dL_law_901 : decode cL_law 901 = .ok (.iload_n 3, 1) := by decide +kernel
theorem dL_law_902 : decode cL_law 902 = .ok (.iconst 1, 1) := by decide +kernel
theorem dL_law_903 : decode cL_law 903 = .ok (.iadd, 1) := by decide +kernel
theorem dL_law_904 : decode cL_law 904 = .ok (.iaload, 1) := by decide +kernel
theorem dL_law_905 : decode cL_law 905 = .ok (.aload_n 0, 1) := by decide +kernel
theorem dL_law_906 : decode cL_law 906 = .ok (.iload_n 3, 1) := by decide +kernel
theorem dL_law_907 : decode cL_law 907 = .ok (.iconst 2, 1) := by decide +kernel
theorem dL_law_908 : decode cL_law 908 = .ok (.iadd, 1) := by decide +kernel
theorem dL_law_909 : decode cL_law 909 = .ok (.iaload, 1) := by decide +kernel
theorem dL_law_910 : decode cL_law 910 = .ok (.invokevirtual 110, 3) := by decide +kernel
theorem dL_law_913 : decode cL_law 913 = .ok (.aload_n 2, 1) := by decide +kernel
theorem dL_law_914 : decode cL_law 914 = .ok (.aload_n 0, 1) := by decide +kernel
theorem dL_law_915 : decode cL_law 915 = .ok (.iload_n 3, 1) := by decide +kernel
theorem dL_law_916 : decode cL_law 916 = .ok (.iconst 1, 1) := by decide +kernel
theorem dL_law_917 : decode cL_law 917 = .ok (.iadd, 1) := by decide +kernel
theorem dL_law_918 : decode cL_law 918 = .ok (.iaload, 1) := by decide +kernel
theorem dL_law_919 : decode cL_law 919 = .ok (.aload_n 0, 1) := by decide +kernel
theorem dL_law_920 : decode cL_law 920 = .ok (.iload_n 3, 1) := by decide +kernel
theorem dL_law_921 : decode cL_law 921 = .ok (.iconst 2, 1) := by decide +kernel
theorem dL_law_922 : decode cL_law 922 = .ok (.iadd, 1) := by decide +kernel
theorem dL_law_923 : decode cL_law 923 = .ok (.iaload, 1) := by decide +kernel
theorem dL_law_924 : decode cL_law 924 = .ok (.invokevirtual 113, 3) := by decide +kernel
theorem dL_law_927 : decode cL_law 927 = .ok (.if_icmp .eq 488, 3) := by decide +kernel
theorem dL_law_930 : decode cL_law 930 = .ok (.iconst 0, 1) := by decide +kernel
theorem dL_law_931 : decode cL_law 931 = .ok (.ireturn, 1) := by decide +kernel
theorem dL_law_932 : decode cL_law 932 = .ok (.aload_n 1, 1) := by decide +kernel
theorem dL_law_933 : decode cL_law 933 = .ok (.aload_n 0, 1) := by decide +kernel
theorem dL_law_934 : decode cL_law 934 = .ok (.iload_n 3, 1) := by decide +kernel
theorem dL_law_935 : decode cL_law 935 = .ok (.iconst 1, 1) := by decide +kernel
theorem dL_law_936 : decode cL_law 936 = .ok (.iadd, 1) := by decide +kernel
theorem dL_law_937 : decode cL_law 937 = .ok (.iaload, 1) := by decide +kernel
theorem dL_law_938 : decode cL_law 938 = .ok (.aload_n 0, 1) := by decide +kernel
theorem dL_law_939 : decode cL_law 939 = .ok (.iload_n 3, 1) := by decide +kernel
theorem dL_law_940 : decode cL_law 940 = .ok (.iconst 2, 1) := by decide +kernel
theorem dL_law_941 : decode cL_law 941 = .ok (.iadd, 1) := by decide +kernel
theorem dL_law_942 : decode cL_law 942 = .ok (.iaload, 1) := by decide +kernel
theorem dL_law_943 : decode cL_law 943 = .ok (.invokevirtual 114, 3) := by decide +kernel
theorem dL_law_946 : decode cL_law 946 = .ok (.aload_n 2, 1) := by decide +kernel
theorem dL_law_947 : decode cL_law 947 = .ok (.aload_n 0, 1) := by decide +kernel
theorem dL_law_948 : decode cL_law 948 = .ok (.iload_n 3, 1) := by decide +kernel
theorem dL_law_949 : decode cL_law 949 = .ok (.iconst 1, 1) := by decide +kernel
theorem dL_law_950 : decode cL_law 950 = .ok (.iadd, 1) := by decide +kernel
theorem dL_law_951 : decode cL_law 951 = .ok (.iaload, 1) := by decide +kernel
theorem dL_law_952 : decode cL_law 952 = .ok (.aload_n 0, 1) := by decide +kernel
theorem dL_law_953 : decode cL_law 953 = .ok (.iload_n 3, 1) := by decide +kernel
theorem dL_law_954 : decode cL_law 954 = .ok (.iconst 2, 1) := by decide +kernel
theorem dL_law_955 : decode cL_law 955 = .ok (.iadd, 1) := by decide +kernel
theorem dL_law_956 : decode cL_law 956 = .ok (.iaload, 1) := by decide +kernel
theorem dL_law_957 : decode cL_law 957 = .ok (.invokevirtual 117, 3) := by decide +kernel
theorem dL_law_960 : decode cL_law 960 = .ok (.if_icmp .eq 455, 3) := by decide +kernel
theorem dL_law_963 : decode cL_law 963 = .ok (.iconst 0, 1) := by decide +kernel
theorem dL_law_964 : decode cL_law 964 = .ok (.ireturn, 1) := by decide +kernel
theorem dL_law_965 : decode cL_law 965 = .ok (.aload_n 1, 1) := by decide +kernel
theorem dL_law_966 : decode cL_law 966 = .ok (.aload_n 0, 1) := by decide +kernel
theorem dL_law_967 : decode cL_law 967 = .ok (.iload_n 3, 1) := by decide +kernel
theorem dL_law_968 : decode cL_law 968 = .ok (.iconst 1, 1) := by decide +kernel
theorem dL_law_969 : decode cL_law 969 = .ok (.iadd, 1) := by decide +kernel
theorem dL_law_970 : decode cL_law 970 = .ok (.iaload, 1) := by decide +kernel
theorem dL_law_971 : decode cL_law 971 = .ok (.aload_n 0, 1) := by decide +kernel
theorem dL_law_972 : decode cL_law 972 = .ok (.iload_n 3, 1) := by decide +kernel
theorem dL_law_973 : decode cL_law 973 = .ok (.iconst 2, 1) := by decide +kernel
theorem dL_law_974 : decode cL_law 974 = .ok (.iadd, 1) := by decide +kernel
theorem dL_law_975 : decode cL_law 975 = .ok (.iaload, 1) := by decide +kernel
theorem dL_law_976 : decode cL_law 976 = .ok (.invokevirtual 118, 3) := by decide +kernel
theorem dL_law_979 : decode cL_law 979 = .ok (.aload_n 2, 1) := by decide +kernel
theorem dL_law_980 : decode cL_law 980 = .ok (.aload_n 0, 1) := by decide +kernel
theorem dL_law_981 : decode cL_law 981 = .ok (.iload_n 3, 1) := by decide +kernel
theorem dL_law_982 : decode cL_law 982 = .ok (.iconst 1, 1) := by decide +kernel
theorem dL_law_983 : decode cL_law 983 = .ok (.iadd, 1) := by decide +kernel
theorem dL_law_984 : decode cL_law 984 = .ok (.iaload, 1) := by decide +kernel
theorem dL_law_985 : decode cL_law 985 = .ok (.aload_n 0, 1) := by decide +kernel
theorem dL_law_986 : decode cL_law 986 = .ok (.iload_n 3, 1) := by decide +kernel
theorem dL_law_987 : decode cL_law 987 = .ok (.iconst 2, 1) := by decide +kernel
theorem dL_law_988 : decode cL_law 988 = .ok (.iadd, 1) := by decide +kernel
theorem dL_law_989 : decode cL_law 989 = .ok (.iaload, 1) := by decide +kernel
theorem dL_law_990 : decode cL_law 990 = .ok (.invokevirtual 121, 3) := by decide +kernel
theorem dL_law_993 : decode cL_law 993 = .ok (.if_icmp .eq 422, 3) := by decide +kernel
theorem dL_law_996 : decode cL_law 996 = .ok (.iconst 0, 1) := by decide +kernel
theorem dL_law_997 : decode cL_law 997 = .ok (.ireturn, 1) := by decide +kernel
theorem dL_law_998 : decode cL_law 998 = .ok (.aload_n 1, 1) := by decide +kernel
theorem dL_law_999 : decode cL_law 999 = .ok (.aload_n 0, 1) := by decide +kernel
theorem dL_law_1000 : decode cL_law 1000 = .ok (.iload_n 3, 1) := by decide +kernel
theorem dL_law_1001 : decode cL_law 1001 = .ok (.iconst 1, 1) := by decide +kernel
theorem dL_law_1002 : decode cL_law 1002 = .ok (.iadd, 1) := by decide +kernel
theorem dL_law_1003 : decode cL_law 1003 = .ok (.iaload, 1) := by decide +kernel
theorem dL_law_1004 : decode cL_law 1004 = .ok (.aload_n 0, 1) := by decide +kernel
theorem dL_law_1005 : decode cL_law 1005 = .ok (.iload_n 3, 1) := by decide +kernel
theorem dL_law_1006 : decode cL_law 1006 = .ok (.iconst 2, 1) := by decide +kernel
theorem dL_law_1007 : decode cL_law 1007 = .ok (.iadd, 1) := by decide +kernel
theorem dL_law_1008 : decode cL_law 1008 = .ok (.iaload, 1) := by decide +kernel
theorem dL_law_1009 : decode cL_law 1009 = .ok (.aload_n 0, 1) := by decide +kernel
theorem dL_law_1010 : decode cL_law 1010 = .ok (.iload_n 3, 1) := by decide +kernel
theorem dL_law_1011 : decode cL_law 1011 = .ok (.iconst 3, 1) := by decide +kernel
theorem dL_law_1012 : decode cL_law 1012 = .ok (.iadd, 1) := by decide +kernel
theorem dL_law_1013 : decode cL_law 1013 = .ok (.iaload, 1) := by decide +kernel
theorem dL_law_1014 : decode cL_law 1014 = .ok (.aload_n 0, 1) := by decide +kernel
theorem dL_law_1015 : decode cL_law 1015 = .ok (.iload_n 3, 1) := by decide +kernel
theorem dL_law_1016 : decode cL_law 1016 = .ok (.iconst 4, 1) := by decide +kernel
theorem dL_law_1017 : decode cL_law 1017 = .ok (.iadd, 1) := by decide +kernel
theorem dL_law_1018 : decode cL_law 1018 = .ok (.iaload, 1) := by decide +kernel
theorem dL_law_1019 : decode cL_law 1019 = .ok (.aload_n 0, 1) := by decide +kernel
theorem dL_law_1020 : decode cL_law 1020 = .ok (.iload_n 3, 1) := by decide +kernel
theorem dL_law_1021 : decode cL_law 1021 = .ok (.iconst 5, 1) := by decide +kernel
theorem dL_law_1022 : decode cL_law 1022 = .ok (.iadd, 1) := by decide +kernel
theorem dL_law_1023 : decode cL_law 1023 = .ok (.iaload, 1) := by decide +kernel
theorem dL_law_1024 : decode cL_law 1024 = .ok (.invokevirtual 122, 3) := by decide +kernel
theorem dL_law_1027 : decode cL_law 1027 = .ok (.aload_n 2, 1) := by decide +kernel
theorem dL_law_1028 : decode cL_law 1028 = .ok (.aload_n 0, 1) := by decide +kernel
theorem dL_law_1029 : decode cL_law 1029 = .ok (.iload_n 3, 1) := by decide +kernel
theorem dL_law_1030 : decode cL_law 1030 = .ok (.iconst 1, 1) := by decide +kernel
theorem dL_law_1031 : decode cL_law 1031 = .ok (.iadd, 1) := by decide +kernel
theorem dL_law_1032 : decode cL_law 1032 = .ok (.iaload, 1) := by decide +kernel
theorem dL_law_1033 : decode cL_law 1033 = .ok (.aload_n 0, 1) := by decide +kernel
theorem dL_law_1034 : decode cL_law 1034 = .ok (.iload_n 3, 1) := by decide +kernel
theorem dL_law_1035 : decode cL_law 1035 = .ok (.iconst 2, 1) := by decide +kernel
theorem dL_law_1036 : decode cL_law 1036 = .ok (.iadd, 1) := by decide +kernel
theorem dL_law_1037 : decode cL_law 1037 = .ok (.iaload, 1) := by decide +kernel
theorem dL_law_1038 : decode cL_law 1038 = .ok (.aload_n 0, 1) := by decide +kernel
theorem dL_law_1039 : decode cL_law 1039 = .ok (.iload_n 3, 1) := by decide +kernel
theorem dL_law_1040 : decode cL_law 1040 = .ok (.iconst 3, 1) := by decide +kernel
theorem dL_law_1041 : decode cL_law 1041 = .ok (.iadd, 1) := by decide +kernel
theorem dL_law_1042 : decode cL_law 1042 = .ok (.iaload, 1) := by decide +kernel
theorem dL_law_1043 : decode cL_law 1043 = .ok (.aload_n 0, 1) := by decide +kernel
theorem dL_law_1044 : decode cL_law 1044 = .ok (.iload_n 3, 1) := by decide +kernel
theorem dL_law_1045 : decode cL_law 1045 = .ok (.iconst 4, 1) := by decide +kernel
theorem dL_law_1046 : decode cL_law 1046 = .ok (.iadd, 1) := by decide +kernel
theorem dL_law_1047 : decode cL_law 1047 = .ok (.iaload, 1) := by decide +kernel
theorem dL_law_1048 : decode cL_law 1048 = .ok (.aload_n 0, 1) := by decide +kernel
theorem dL_law_1049 : decode cL_law 1049 = .ok (.iload_n 3, 1) := by decide +kernel
theorem dL_law_1050 : decode cL_law 1050 = .ok (.iconst 5, 1) := by decide +kernel
theorem dL_law_1051 : decode cL_law 1051 = .ok (.iadd, 1) := by decide +kernel
theorem dL_law_1052 : decode cL_law 1052 = .ok (.iaload, 1) := by decide +kernel
theorem dL_law_1053 : decode cL_law 1053 = .ok (.invokevirtual 125, 3) := by decide +kernel
theorem dL_law_1056 : decode cL_law 1056 = .ok (.if_icmp .eq 359, 3) := by decide +kernel
theorem dL_law_1059 : decode cL_law 1059 = .ok (.iconst 0, 1) := by decide +kernel
theorem dL_law_1060 : decode cL_law 1060 = .ok (.ireturn, 1) := by decide +kernel
theorem dL_law_1061 : decode cL_law 1061 = .ok (.aload_n 1, 1) := by decide +kernel
theorem dL_law_1062 : decode cL_law 1062 = .ok (.aload_n 0, 1) := by decide +kernel
theorem dL_law_1063 : decode cL_law 1063 = .ok (.iload_n 3, 1) := by decide +kernel
theorem dL_law_1064 : decode cL_law 1064 = .ok (.iconst 1, 1) := by decide +kernel
theorem dL_law_1065 : decode cL_law 1065 = .ok (.iadd, 1) := by decide +kernel
theorem dL_law_1066 : decode cL_law 1066 = .ok (.iaload, 1) := by decide +kernel
theorem dL_law_1067 : decode cL_law 1067 = .ok (.aload_n 0, 1) := by decide +kernel
theorem dL_law_1068 : decode cL_law 1068 = .ok (.iload_n 3, 1) := by decide +kernel
theorem dL_law_1069 : decode cL_law 1069 = .ok (.iconst 2, 1) := by decide +kernel
theorem dL_law_1070 : decode cL_law 1070 = .ok (.iadd, 1) := by decide +kernel
theorem dL_law_1071 : decode cL_law 1071 = .ok (.iaload, 1) := by decide +kernel
theorem dL_law_1072 : decode cL_law 1072 = .ok (.aload_n 0, 1) := by decide +kernel
theorem dL_law_1073 : decode cL_law 1073 = .ok (.iload_n 3, 1) := by decide +kernel
theorem dL_law_1074 : decode cL_law 1074 = .ok (.iconst 3, 1) := by decide +kernel
theorem dL_law_1075 : decode cL_law 1075 = .ok (.iadd, 1) := by decide +kernel
theorem dL_law_1076 : decode cL_law 1076 = .ok (.iaload, 1) := by decide +kernel
theorem dL_law_1077 : decode cL_law 1077 = .ok (.aload_n 0, 1) := by decide +kernel
theorem dL_law_1078 : decode cL_law 1078 = .ok (.iload_n 3, 1) := by decide +kernel
theorem dL_law_1079 : decode cL_law 1079 = .ok (.iconst 4, 1) := by decide +kernel
theorem dL_law_1080 : decode cL_law 1080 = .ok (.iadd, 1) := by decide +kernel
theorem dL_law_1081 : decode cL_law 1081 = .ok (.iaload, 1) := by decide +kernel
theorem dL_law_1082 : decode cL_law 1082 = .ok (.aload_n 0, 1) := by decide +kernel
theorem dL_law_1083 : decode cL_law 1083 = .ok (.iload_n 3, 1) := by decide +kernel
theorem dL_law_1084 : decode cL_law 1084 = .ok (.iconst 5, 1) := by decide +kernel
theorem dL_law_1085 : decode cL_law 1085 = .ok (.iadd, 1) := by decide +kernel
theorem dL_law_1086 : decode cL_law 1086 = .ok (.iaload, 1) := by decide +kernel
theorem dL_law_1087 : decode cL_law 1087 = .ok (.invokevirtual 126, 3) := by decide +kernel
theorem dL_law_1090 : decode cL_law 1090 = .ok (.aload_n 2, 1) := by decide +kernel
theorem dL_law_1091 : decode cL_law 1091 = .ok (.aload_n 0, 1) := by decide +kernel
theorem dL_law_1092 : decode cL_law 1092 = .ok (.iload_n 3, 1) := by decide +kernel
theorem dL_law_1093 : decode cL_law 1093 = .ok (.iconst 1, 1) := by decide +kernel
theorem dL_law_1094 : decode cL_law 1094 = .ok (.iadd, 1) := by decide +kernel
theorem dL_law_1095 : decode cL_law 1095 = .ok (.iaload, 1) := by decide +kernel
theorem dL_law_1096 : decode cL_law 1096 = .ok (.aload_n 0, 1) := by decide +kernel
theorem dL_law_1097 : decode cL_law 1097 = .ok (.iload_n 3, 1) := by decide +kernel
theorem dL_law_1098 : decode cL_law 1098 = .ok (.iconst 2, 1) := by decide +kernel
theorem dL_law_1099 : decode cL_law 1099 = .ok (.iadd, 1) := by decide +kernel
theorem dL_law_1100 : decode cL_law 1100 = .ok (.iaload, 1) := by decide +kernel
theorem dL_law_1101 : decode cL_law 1101 = .ok (.aload_n 0, 1) := by decide +kernel
theorem dL_law_1102 : decode cL_law 1102 = .ok (.iload_n 3, 1) := by decide +kernel
theorem dL_law_1103 : decode cL_law 1103 = .ok (.iconst 3, 1) := by decide +kernel
theorem dL_law_1104 : decode cL_law 1104 = .ok (.iadd, 1) := by decide +kernel
theorem dL_law_1105 : decode cL_law 1105 = .ok (.iaload, 1) := by decide +kernel
theorem dL_law_1106 : decode cL_law 1106 = .ok (.aload_n 0, 1) := by decide +kernel
theorem dL_law_1107 : decode cL_law 1107 = .ok (.iload_n 3, 1) := by decide +kernel
theorem dL_law_1108 : decode cL_law 1108 = .ok (.iconst 4, 1) := by decide +kernel
theorem dL_law_1109 : decode cL_law 1109 = .ok (.iadd, 1) := by decide +kernel
theorem dL_law_1110 : decode cL_law 1110 = .ok (.iaload, 1) := by decide +kernel
theorem dL_law_1111 : decode cL_law 1111 = .ok (.aload_n 0, 1) := by decide +kernel
theorem dL_law_1112 : decode cL_law 1112 = .ok (.iload_n 3, 1) := by decide +kernel
theorem dL_law_1113 : decode cL_law 1113 = .ok (.iconst 5, 1) := by decide +kernel
theorem dL_law_1114 : decode cL_law 1114 = .ok (.iadd, 1) := by decide +kernel
theorem dL_law_1115 : decode cL_law 1115 = .ok (.iaload, 1) := by decide +kernel
theorem dL_law_1116 : decode cL_law 1116 = .ok (.invokevirtual 129, 3) := by decide +kernel
theorem dL_law_1119 : decode cL_law 1119 = .ok (.if_icmp .eq 296, 3) := by decide +kernel
theorem dL_law_1122 : decode cL_law 1122 = .ok (.iconst 0, 1) := by decide +kernel
theorem dL_law_1123 : decode cL_law 1123 = .ok (.ireturn, 1) := by decide +kernel
theorem dL_law_1124 : decode cL_law 1124 = .ok (.aload_n 1, 1) := by decide +kernel
theorem dL_law_1125 : decode cL_law 1125 = .ok (.aload_n 0, 1) := by decide +kernel
theorem dL_law_1126 : decode cL_law 1126 = .ok (.iload_n 3, 1) := by decide +kernel
theorem dL_law_1127 : decode cL_law 1127 = .ok (.iconst 1, 1) := by decide +kernel
theorem dL_law_1128 : decode cL_law 1128 = .ok (.iadd, 1) := by decide +kernel
theorem dL_law_1129 : decode cL_law 1129 = .ok (.iaload, 1) := by decide +kernel
theorem dL_law_1130 : decode cL_law 1130 = .ok (.aload_n 0, 1) := by decide +kernel
theorem dL_law_1131 : decode cL_law 1131 = .ok (.iload_n 3, 1) := by decide +kernel
theorem dL_law_1132 : decode cL_law 1132 = .ok (.iconst 2, 1) := by decide +kernel
theorem dL_law_1133 : decode cL_law 1133 = .ok (.iadd, 1) := by decide +kernel
theorem dL_law_1134 : decode cL_law 1134 = .ok (.iaload, 1) := by decide +kernel
theorem dL_law_1135 : decode cL_law 1135 = .ok (.aload_n 0, 1) := by decide +kernel
theorem dL_law_1136 : decode cL_law 1136 = .ok (.iload_n 3, 1) := by decide +kernel
theorem dL_law_1137 : decode cL_law 1137 = .ok (.iconst 3, 1) := by decide +kernel
theorem dL_law_1138 : decode cL_law 1138 = .ok (.iadd, 1) := by decide +kernel
theorem dL_law_1139 : decode cL_law 1139 = .ok (.iaload, 1) := by decide +kernel
theorem dL_law_1140 : decode cL_law 1140 = .ok (.aload_n 0, 1) := by decide +kernel
theorem dL_law_1141 : decode cL_law 1141 = .ok (.iload_n 3, 1) := by decide +kernel
theorem dL_law_1142 : decode cL_law 1142 = .ok (.iconst 4, 1) := by decide +kernel
theorem dL_law_1143 : decode cL_law 1143 = .ok (.iadd, 1) := by decide +kernel
theorem dL_law_1144 : decode cL_law 1144 = .ok (.iaload, 1) := by decide +kernel
theorem dL_law_1145 : decode cL_law 1145 = .ok (.invokevirtual 130, 3) := by decide +kernel
theorem dL_law_1148 : decode cL_law 1148 = .ok (.aload_n 2, 1) := by decide +kernel
theorem dL_law_1149 : decode cL_law 1149 = .ok (.aload_n 0, 1) := by decide +kernel
theorem dL_law_1150 : decode cL_law 1150 = .ok (.iload_n 3, 1) := by decide +kernel
theorem dL_law_1151 : decode cL_law 1151 = .ok (.iconst 1, 1) := by decide +kernel
theorem dL_law_1152 : decode cL_law 1152 = .ok (.iadd, 1) := by decide +kernel
theorem dL_law_1153 : decode cL_law 1153 = .ok (.iaload, 1) := by decide +kernel
theorem dL_law_1154 : decode cL_law 1154 = .ok (.aload_n 0, 1) := by decide +kernel
theorem dL_law_1155 : decode cL_law 1155 = .ok (.iload_n 3, 1) := by decide +kernel
theorem dL_law_1156 : decode cL_law 1156 = .ok (.iconst 2, 1) := by decide +kernel
theorem dL_law_1157 : decode cL_law 1157 = .ok (.iadd, 1) := by decide +kernel
theorem dL_law_1158 : decode cL_law 1158 = .ok (.iaload, 1) := by decide +kernel
theorem dL_law_1159 : decode cL_law 1159 = .ok (.aload_n 0, 1) := by decide +kernel
theorem dL_law_1160 : decode cL_law 1160 = .ok (.iload_n 3, 1) := by decide +kernel
theorem dL_law_1161 : decode cL_law 1161 = .ok (.iconst 3, 1) := by decide +kernel
theorem dL_law_1162 : decode cL_law 1162 = .ok (.iadd, 1) := by decide +kernel
theorem dL_law_1163 : decode cL_law 1163 = .ok (.iaload, 1) := by decide +kernel
theorem dL_law_1164 : decode cL_law 1164 = .ok (.aload_n 0, 1) := by decide +kernel
theorem dL_law_1165 : decode cL_law 1165 = .ok (.iload_n 3, 1) := by decide +kernel
theorem dL_law_1166 : decode cL_law 1166 = .ok (.iconst 4, 1) := by decide +kernel
theorem dL_law_1167 : decode cL_law 1167 = .ok (.iadd, 1) := by decide +kernel
theorem dL_law_1168 : decode cL_law 1168 = .ok (.iaload, 1) := by decide +kernel
theorem dL_law_1169 : decode cL_law 1169 = .ok (.invokevirtual 134, 3) := by decide +kernel
theorem dL_law_1172 : decode cL_law 1172 = .ok (.lcmp, 1) := by decide +kernel
theorem dL_law_1173 : decode cL_law 1173 = .ok (.ifCond .eq 242, 3) := by decide +kernel
theorem dL_law_1176 : decode cL_law 1176 = .ok (.iconst 0, 1) := by decide +kernel
theorem dL_law_1177 : decode cL_law 1177 = .ok (.ireturn, 1) := by decide +kernel
theorem dL_law_1178 : decode cL_law 1178 = .ok (.aload_n 1, 1) := by decide +kernel
theorem dL_law_1179 : decode cL_law 1179 = .ok (.aload_n 0, 1) := by decide +kernel
theorem dL_law_1180 : decode cL_law 1180 = .ok (.iload_n 3, 1) := by decide +kernel
theorem dL_law_1181 : decode cL_law 1181 = .ok (.iconst 1, 1) := by decide +kernel
theorem dL_law_1182 : decode cL_law 1182 = .ok (.iadd, 1) := by decide +kernel
theorem dL_law_1183 : decode cL_law 1183 = .ok (.iaload, 1) := by decide +kernel
theorem dL_law_1184 : decode cL_law 1184 = .ok (.aload_n 0, 1) := by decide +kernel
theorem dL_law_1185 : decode cL_law 1185 = .ok (.iload_n 3, 1) := by decide +kernel
theorem dL_law_1186 : decode cL_law 1186 = .ok (.iconst 2, 1) := by decide +kernel
theorem dL_law_1187 : decode cL_law 1187 = .ok (.iadd, 1) := by decide +kernel
theorem dL_law_1188 : decode cL_law 1188 = .ok (.iaload, 1) := by decide +kernel
theorem dL_law_1189 : decode cL_law 1189 = .ok (.aload_n 0, 1) := by decide +kernel
theorem dL_law_1190 : decode cL_law 1190 = .ok (.iload_n 3, 1) := by decide +kernel
theorem dL_law_1191 : decode cL_law 1191 = .ok (.iconst 3, 1) := by decide +kernel
theorem dL_law_1192 : decode cL_law 1192 = .ok (.iadd, 1) := by decide +kernel
theorem dL_law_1193 : decode cL_law 1193 = .ok (.iaload, 1) := by decide +kernel
theorem dL_law_1194 : decode cL_law 1194 = .ok (.invokevirtual 135, 3) := by decide +kernel
theorem dL_law_1197 : decode cL_law 1197 = .ok (.aload_n 2, 1) := by decide +kernel
theorem dL_law_1198 : decode cL_law 1198 = .ok (.aload_n 0, 1) := by decide +kernel
theorem dL_law_1199 : decode cL_law 1199 = .ok (.iload_n 3, 1) := by decide +kernel
theorem dL_law_1200 : decode cL_law 1200 = .ok (.iconst 1, 1) := by decide +kernel
theorem dL_law_1201 : decode cL_law 1201 = .ok (.iadd, 1) := by decide +kernel
theorem dL_law_1202 : decode cL_law 1202 = .ok (.iaload, 1) := by decide +kernel
theorem dL_law_1203 : decode cL_law 1203 = .ok (.aload_n 0, 1) := by decide +kernel
theorem dL_law_1204 : decode cL_law 1204 = .ok (.iload_n 3, 1) := by decide +kernel
theorem dL_law_1205 : decode cL_law 1205 = .ok (.iconst 2, 1) := by decide +kernel
theorem dL_law_1206 : decode cL_law 1206 = .ok (.iadd, 1) := by decide +kernel
theorem dL_law_1207 : decode cL_law 1207 = .ok (.iaload, 1) := by decide +kernel
theorem dL_law_1208 : decode cL_law 1208 = .ok (.aload_n 0, 1) := by decide +kernel
theorem dL_law_1209 : decode cL_law 1209 = .ok (.iload_n 3, 1) := by decide +kernel
theorem dL_law_1210 : decode cL_law 1210 = .ok (.iconst 3, 1) := by decide +kernel
theorem dL_law_1211 : decode cL_law 1211 = .ok (.iadd, 1) := by decide +kernel
theorem dL_law_1212 : decode cL_law 1212 = .ok (.iaload, 1) := by decide +kernel
theorem dL_law_1213 : decode cL_law 1213 = .ok (.invokevirtual 138, 3) := by decide +kernel
theorem dL_law_1216 : decode cL_law 1216 = .ok (.if_icmp .eq 199, 3) := by decide +kernel
theorem dL_law_1219 : decode cL_law 1219 = .ok (.iconst 0, 1) := by decide +kernel
theorem dL_law_1220 : decode cL_law 1220 = .ok (.ireturn, 1) := by decide +kernel
theorem dL_law_1221 : decode cL_law 1221 = .ok (.aload_n 1, 1) := by decide +kernel
theorem dL_law_1222 : decode cL_law 1222 = .ok (.aload_n 0, 1) := by decide +kernel
theorem dL_law_1223 : decode cL_law 1223 = .ok (.iload_n 3, 1) := by decide +kernel
theorem dL_law_1224 : decode cL_law 1224 = .ok (.iconst 1, 1) := by decide +kernel
theorem dL_law_1225 : decode cL_law 1225 = .ok (.iadd, 1) := by decide +kernel
theorem dL_law_1226 : decode cL_law 1226 = .ok (.iaload, 1) := by decide +kernel
theorem dL_law_1227 : decode cL_law 1227 = .ok (.invokevirtual 139, 3) := by decide +kernel
theorem dL_law_1230 : decode cL_law 1230 = .ok (.aload_n 2, 1) := by decide +kernel
theorem dL_law_1231 : decode cL_law 1231 = .ok (.aload_n 0, 1) := by decide +kernel
theorem dL_law_1232 : decode cL_law 1232 = .ok (.iload_n 3, 1) := by decide +kernel
theorem dL_law_1233 : decode cL_law 1233 = .ok (.iconst 1, 1) := by decide +kernel
theorem dL_law_1234 : decode cL_law 1234 = .ok (.iadd, 1) := by decide +kernel
theorem dL_law_1235 : decode cL_law 1235 = .ok (.iaload, 1) := by decide +kernel
theorem dL_law_1236 : decode cL_law 1236 = .ok (.invokevirtual 142, 3) := by decide +kernel
theorem dL_law_1239 : decode cL_law 1239 = .ok (.if_icmp .eq 176, 3) := by decide +kernel
theorem dL_law_1242 : decode cL_law 1242 = .ok (.iconst 0, 1) := by decide +kernel
theorem dL_law_1243 : decode cL_law 1243 = .ok (.ireturn, 1) := by decide +kernel
theorem dL_law_1244 : decode cL_law 1244 = .ok (.aload_n 1, 1) := by decide +kernel
theorem dL_law_1245 : decode cL_law 1245 = .ok (.aload_n 0, 1) := by decide +kernel
theorem dL_law_1246 : decode cL_law 1246 = .ok (.iload_n 3, 1) := by decide +kernel
theorem dL_law_1247 : decode cL_law 1247 = .ok (.iconst 1, 1) := by decide +kernel
theorem dL_law_1248 : decode cL_law 1248 = .ok (.iadd, 1) := by decide +kernel
theorem dL_law_1249 : decode cL_law 1249 = .ok (.iaload, 1) := by decide +kernel
theorem dL_law_1250 : decode cL_law 1250 = .ok (.invokevirtual 143, 3) := by decide +kernel
theorem dL_law_1253 : decode cL_law 1253 = .ok (.aload_n 2, 1) := by decide +kernel
theorem dL_law_1254 : decode cL_law 1254 = .ok (.aload_n 0, 1) := by decide +kernel
theorem dL_law_1255 : decode cL_law 1255 = .ok (.iload_n 3, 1) := by decide +kernel
theorem dL_law_1256 : decode cL_law 1256 = .ok (.iconst 1, 1) := by decide +kernel
theorem dL_law_1257 : decode cL_law 1257 = .ok (.iadd, 1) := by decide +kernel
theorem dL_law_1258 : decode cL_law 1258 = .ok (.iaload, 1) := by decide +kernel
theorem dL_law_1259 : decode cL_law 1259 = .ok (.invokevirtual 146, 3) := by decide +kernel
theorem dL_law_1262 : decode cL_law 1262 = .ok (.if_icmp .eq 153, 3) := by decide +kernel
theorem dL_law_1265 : decode cL_law 1265 = .ok (.iconst 0, 1) := by decide +kernel
theorem dL_law_1266 : decode cL_law 1266 = .ok (.ireturn, 1) := by decide +kernel
theorem dL_law_1267 : decode cL_law 1267 = .ok (.aload_n 1, 1) := by decide +kernel
theorem dL_law_1268 : decode cL_law 1268 = .ok (.aload_n 0, 1) := by decide +kernel
theorem dL_law_1269 : decode cL_law 1269 = .ok (.iload_n 3, 1) := by decide +kernel
theorem dL_law_1270 : decode cL_law 1270 = .ok (.iconst 1, 1) := by decide +kernel
theorem dL_law_1271 : decode cL_law 1271 = .ok (.iadd, 1) := by decide +kernel
theorem dL_law_1272 : decode cL_law 1272 = .ok (.iaload, 1) := by decide +kernel
theorem dL_law_1273 : decode cL_law 1273 = .ok (.invokevirtual 147, 3) := by decide +kernel
theorem dL_law_1276 : decode cL_law 1276 = .ok (.aload_n 2, 1) := by decide +kernel
theorem dL_law_1277 : decode cL_law 1277 = .ok (.aload_n 0, 1) := by decide +kernel
theorem dL_law_1278 : decode cL_law 1278 = .ok (.iload_n 3, 1) := by decide +kernel
theorem dL_law_1279 : decode cL_law 1279 = .ok (.iconst 1, 1) := by decide +kernel
theorem dL_law_1280 : decode cL_law 1280 = .ok (.iadd, 1) := by decide +kernel
theorem dL_law_1281 : decode cL_law 1281 = .ok (.iaload, 1) := by decide +kernel
theorem dL_law_1282 : decode cL_law 1282 = .ok (.invokevirtual 150, 3) := by decide +kernel
theorem dL_law_1285 : decode cL_law 1285 = .ok (.if_icmp .eq 130, 3) := by decide +kernel
theorem dL_law_1288 : decode cL_law 1288 = .ok (.iconst 0, 1) := by decide +kernel
theorem dL_law_1289 : decode cL_law 1289 = .ok (.ireturn, 1) := by decide +kernel
theorem dL_law_1290 : decode cL_law 1290 = .ok (.aload_n 1, 1) := by decide +kernel
theorem dL_law_1291 : decode cL_law 1291 = .ok (.aload_n 0, 1) := by decide +kernel
theorem dL_law_1292 : decode cL_law 1292 = .ok (.iload_n 3, 1) := by decide +kernel
theorem dL_law_1293 : decode cL_law 1293 = .ok (.iconst 1, 1) := by decide +kernel
theorem dL_law_1294 : decode cL_law 1294 = .ok (.iadd, 1) := by decide +kernel
theorem dL_law_1295 : decode cL_law 1295 = .ok (.iaload, 1) := by decide +kernel
theorem dL_law_1296 : decode cL_law 1296 = .ok (.aload_n 0, 1) := by decide +kernel
theorem dL_law_1297 : decode cL_law 1297 = .ok (.iload_n 3, 1) := by decide +kernel
theorem dL_law_1298 : decode cL_law 1298 = .ok (.iconst 2, 1) := by decide +kernel
theorem dL_law_1299 : decode cL_law 1299 = .ok (.iadd, 1) := by decide +kernel
theorem dL_law_1300 : decode cL_law 1300 = .ok (.iaload, 1) := by decide +kernel
theorem dL_law_1301 : decode cL_law 1301 = .ok (.invokevirtual 151, 3) := by decide +kernel
theorem dL_law_1304 : decode cL_law 1304 = .ok (.aload_n 2, 1) := by decide +kernel
theorem dL_law_1305 : decode cL_law 1305 = .ok (.aload_n 0, 1) := by decide +kernel
theorem dL_law_1306 : decode cL_law 1306 = .ok (.iload_n 3, 1) := by decide +kernel
theorem dL_law_1307 : decode cL_law 1307 = .ok (.iconst 1, 1) := by decide +kernel
theorem dL_law_1308 : decode cL_law 1308 = .ok (.iadd, 1) := by decide +kernel
theorem dL_law_1309 : decode cL_law 1309 = .ok (.iaload, 1) := by decide +kernel
theorem dL_law_1310 : decode cL_law 1310 = .ok (.aload_n 0, 1) := by decide +kernel
theorem dL_law_1311 : decode cL_law 1311 = .ok (.iload_n 3, 1) := by decide +kernel
theorem dL_law_1312 : decode cL_law 1312 = .ok (.iconst 2, 1) := by decide +kernel
theorem dL_law_1313 : decode cL_law 1313 = .ok (.iadd, 1) := by decide +kernel
theorem dL_law_1314 : decode cL_law 1314 = .ok (.iaload, 1) := by decide +kernel
theorem dL_law_1315 : decode cL_law 1315 = .ok (.invokevirtual 154, 3) := by decide +kernel
theorem dL_law_1318 : decode cL_law 1318 = .ok (.if_icmp .eq 97, 3) := by decide +kernel
theorem dL_law_1321 : decode cL_law 1321 = .ok (.iconst 0, 1) := by decide +kernel
theorem dL_law_1322 : decode cL_law 1322 = .ok (.ireturn, 1) := by decide +kernel
theorem dL_law_1323 : decode cL_law 1323 = .ok (.aload_n 1, 1) := by decide +kernel
theorem dL_law_1324 : decode cL_law 1324 = .ok (.aload_n 0, 1) := by decide +kernel
theorem dL_law_1325 : decode cL_law 1325 = .ok (.iload_n 3, 1) := by decide +kernel
theorem dL_law_1326 : decode cL_law 1326 = .ok (.iconst 1, 1) := by decide +kernel
theorem dL_law_1327 : decode cL_law 1327 = .ok (.iadd, 1) := by decide +kernel
theorem dL_law_1328 : decode cL_law 1328 = .ok (.iaload, 1) := by decide +kernel
theorem dL_law_1329 : decode cL_law 1329 = .ok (.aload_n 0, 1) := by decide +kernel
theorem dL_law_1330 : decode cL_law 1330 = .ok (.iload_n 3, 1) := by decide +kernel
theorem dL_law_1331 : decode cL_law 1331 = .ok (.iconst 2, 1) := by decide +kernel
theorem dL_law_1332 : decode cL_law 1332 = .ok (.iadd, 1) := by decide +kernel
theorem dL_law_1333 : decode cL_law 1333 = .ok (.iaload, 1) := by decide +kernel
theorem dL_law_1334 : decode cL_law 1334 = .ok (.invokevirtual 155, 3) := by decide +kernel
theorem dL_law_1337 : decode cL_law 1337 = .ok (.aload_n 2, 1) := by decide +kernel
theorem dL_law_1338 : decode cL_law 1338 = .ok (.aload_n 0, 1) := by decide +kernel
theorem dL_law_1339 : decode cL_law 1339 = .ok (.iload_n 3, 1) := by decide +kernel
theorem dL_law_1340 : decode cL_law 1340 = .ok (.iconst 1, 1) := by decide +kernel
theorem dL_law_1341 : decode cL_law 1341 = .ok (.iadd, 1) := by decide +kernel
theorem dL_law_1342 : decode cL_law 1342 = .ok (.iaload, 1) := by decide +kernel
theorem dL_law_1343 : decode cL_law 1343 = .ok (.aload_n 0, 1) := by decide +kernel
theorem dL_law_1344 : decode cL_law 1344 = .ok (.iload_n 3, 1) := by decide +kernel
theorem dL_law_1345 : decode cL_law 1345 = .ok (.iconst 2, 1) := by decide +kernel
theorem dL_law_1346 : decode cL_law 1346 = .ok (.iadd, 1) := by decide +kernel
theorem dL_law_1347 : decode cL_law 1347 = .ok (.iaload, 1) := by decide +kernel
theorem dL_law_1348 : decode cL_law 1348 = .ok (.invokevirtual 158, 3) := by decide +kernel
theorem dL_law_1351 : decode cL_law 1351 = .ok (.if_icmp .eq 64, 3) := by decide +kernel
theorem dL_law_1354 : decode cL_law 1354 = .ok (.iconst 0, 1) := by decide +kernel
theorem dL_law_1355 : decode cL_law 1355 = .ok (.ireturn, 1) := by decide +kernel
theorem dL_law_1356 : decode cL_law 1356 = .ok (.aload_n 1, 1) := by decide +kernel
theorem dL_law_1357 : decode cL_law 1357 = .ok (.aload_n 0, 1) := by decide +kernel
theorem dL_law_1358 : decode cL_law 1358 = .ok (.iload_n 3, 1) := by decide +kernel
theorem dL_law_1359 : decode cL_law 1359 = .ok (.iconst 1, 1) := by decide +kernel
theorem dL_law_1360 : decode cL_law 1360 = .ok (.iadd, 1) := by decide +kernel
theorem dL_law_1361 : decode cL_law 1361 = .ok (.iaload, 1) := by decide +kernel
theorem dL_law_1362 : decode cL_law 1362 = .ok (.invokevirtual 159, 3) := by decide +kernel
theorem dL_law_1365 : decode cL_law 1365 = .ok (.aload_n 2, 1) := by decide +kernel
theorem dL_law_1366 : decode cL_law 1366 = .ok (.aload_n 0, 1) := by decide +kernel
theorem dL_law_1367 : decode cL_law 1367 = .ok (.iload_n 3, 1) := by decide +kernel
theorem dL_law_1368 : decode cL_law 1368 = .ok (.iconst 1, 1) := by decide +kernel
theorem dL_law_1369 : decode cL_law 1369 = .ok (.iadd, 1) := by decide +kernel
theorem dL_law_1370 : decode cL_law 1370 = .ok (.iaload, 1) := by decide +kernel
theorem dL_law_1371 : decode cL_law 1371 = .ok (.invokevirtual 162, 3) := by decide +kernel
theorem dL_law_1374 : decode cL_law 1374 = .ok (.if_icmp .eq 41, 3) := by decide +kernel
theorem dL_law_1377 : decode cL_law 1377 = .ok (.iconst 0, 1) := by decide +kernel
theorem dL_law_1378 : decode cL_law 1378 = .ok (.ireturn, 1) := by decide +kernel
theorem dL_law_1379 : decode cL_law 1379 = .ok (.aload_n 1, 1) := by decide +kernel
theorem dL_law_1380 : decode cL_law 1380 = .ok (.aload_n 0, 1) := by decide +kernel
theorem dL_law_1381 : decode cL_law 1381 = .ok (.iload_n 3, 1) := by decide +kernel
theorem dL_law_1382 : decode cL_law 1382 = .ok (.iconst 1, 1) := by decide +kernel
theorem dL_law_1383 : decode cL_law 1383 = .ok (.iadd, 1) := by decide +kernel
theorem dL_law_1384 : decode cL_law 1384 = .ok (.iaload, 1) := by decide +kernel
theorem dL_law_1385 : decode cL_law 1385 = .ok (.invokevirtual 163, 3) := by decide +kernel
theorem dL_law_1388 : decode cL_law 1388 = .ok (.aload_n 2, 1) := by decide +kernel
theorem dL_law_1389 : decode cL_law 1389 = .ok (.aload_n 0, 1) := by decide +kernel
theorem dL_law_1390 : decode cL_law 1390 = .ok (.iload_n 3, 1) := by decide +kernel
theorem dL_law_1391 : decode cL_law 1391 = .ok (.iconst 1, 1) := by decide +kernel
theorem dL_law_1392 : decode cL_law 1392 = .ok (.iadd, 1) := by decide +kernel
theorem dL_law_1393 : decode cL_law 1393 = .ok (.iaload, 1) := by decide +kernel
theorem dL_law_1394 : decode cL_law 1394 = .ok (.invokevirtual 166, 3) := by decide +kernel
theorem dL_law_1397 : decode cL_law 1397 = .ok (.if_icmp .eq 18, 3) := by decide +kernel
theorem dL_law_1400 : decode cL_law 1400 = .ok (.iconst 0, 1) := by decide +kernel
theorem dL_law_1401 : decode cL_law 1401 = .ok (.ireturn, 1) := by decide +kernel
theorem dL_law_1402 : decode cL_law 1402 = .ok (.aload_n 1, 1) := by decide +kernel
theorem dL_law_1403 : decode cL_law 1403 = .ok (.invokevirtual 167, 3) := by decide +kernel
theorem dL_law_1406 : decode cL_law 1406 = .ok (.aload_n 2, 1) := by decide +kernel
theorem dL_law_1407 : decode cL_law 1407 = .ok (.invokevirtual 170, 3) := by decide +kernel
theorem dL_law_1410 : decode cL_law 1410 = .ok (.if_icmp .eq 5, 3) := by decide +kernel
theorem dL_law_1413 : decode cL_law 1413 = .ok (.iconst 0, 1) := by decide +kernel
theorem dL_law_1414 : decode cL_law 1414 = .ok (.ireturn, 1) := by decide +kernel
theorem dL_law_1415 : decode cL_law 1415 = .ok (.iinc 3 6, 3) := by decide +kernel
theorem dL_law_1418 : decode cL_law 1418 = .ok (.goto (-1400), 3) := by decide +kernel
theorem dL_law_1421 : decode cL_law 1421 = .ok (.iconst 1, 1) := by decide +kernel
theorem dL_law_1422 : decode cL_law 1422 = .ok (.ireturn, 1) := by decide +kernel
end
section
/-! THE ABSTRACT WORLD: regions and their cells; ints by (region, cell, slot), references by (region, cell) -/
abbrev xAV : Type := (Int32 ⊕ Int64) ⊕ Option (Nat × Nat)
abbrev xI (v : Int32) : xAV := Sum.inl (Sum.inl v)
abbrev xJ (v : Int64) : xAV := Sum.inl (Sum.inr v)
abbrev xR (r c : Nat) : xAV := Sum.inr (some (r, c))
abbrev xN : xAV := Sum.inr none
abbrev xP : Type := Nat → Nat → Nat
def xt (ρ : xP) : xAV → Value
  | .inl (.inl v) => .int v
  | .inl (.inr v) => .long v
  | .inr (some q) => .ref (ρ q.1 q.2)
  | .inr none => .null
abbrev xY : Type := List ((Nat × Nat) × (Nat × Nat))
abbrev xG : Type := Nat → Nat → Nat → Option (Nat × Nat)
abbrev xM : Type := Nat → Nat → Nat → Int32
abbrev xD : Type := ClassId × ClassId × ClassId × ClassId
/-- which fields of a class are references -/
def xF : Nat → List Bool
  | 0 => [true, false, false]
  | 1 => [true, false]
  | 2 => [true, true, true]
  | 3 => [true, true, true, true, true, true, false, false, false, false]
  | 4 => [true, false, false, false, false]
  | 5 => [false, false, false, false, false, true, true, true, true, true, true, true, true, true, true]
  | 6 => [true, true, true, true, true, true, true, true, false, false]
  | 7 => [true, true, true, false, true, false, false, false, false, false, true, false, true, true, false, true, true, true, true, true, false, false, false, false, false, false, false, true, true, true, true, true]
  | _ => []
def xq (ρ : xP) (o : Option (Nat × Nat)) : Option Nat := o.map (fun q => ρ q.1 q.2)
def xfs (ρ : xP) (G : xG) (N : xM) (r c ci : Nat) : List Value := (xF ci).mapIdx (fun k b => if b then va_rf (xq ρ (G r c k)) else .int (N r c k))
def xcell (I : xD) (ρ : xP) (G : xG) (N : xM) (r c : Nat) : Nat × Nat → va_E
  | (0, ci) => .inr (ci, xfs ρ G N r c ci)
  | (1, n) => .inl (I.1, n, .inl (N r c))
  | (2, n) => .inl (I.2.2.1, n, .inr (.inr (.inr (.inr (fun i => xq ρ (G r c i))))))
  | (3, n) => .inl (I.2.2.2, n, .inr (.inr (.inr (.inr (fun i => xq ρ (G r c i))))))
  | (_, n) => .inl (I.2.1, n, .inl (N r c))
def xw (I : xD) (ρ : xP) (Y : xY) (G : xG) (N : xM) : va_W := Y.map (fun q => (ρ q.1.1 q.1.2, xcell I ρ G N q.1.1 q.1.2 q.2))
def xp (N : xM) (r c : Nat) (f : Nat → Int32) : xM := va_up N r (va_up (N r) c f)
def xg (G : xG) (r c : Nat) (f : Nat → Option (Nat × Nat)) : xG := va_up G r (va_up (G r) c f)
theorem va_up_eq {α : Type} (f : Nat → α) (k : Nat) (v : α) : va_up f k v k = v := if_pos rfl
theorem va_up_no {α : Type} (f : Nat → α) {k j : Nat} (v : α) (h : j ≠ k) : va_up f k v j = f j := if_neg h
theorem va_up_id {α : Type} (f : Nat → α) (k : Nat) : va_up f k (f k) = f := by
  funext j
  by_cases h : j = k
  · rw [h, va_up_eq]
  · rw [va_up_no _ _ h]
theorem xp_eq (N : xM) (r c : Nat) (f : Nat → Int32) : xp N r c f r c = f := by unfold xp; rw [va_up_eq, va_up_eq]
theorem xp_no (N : xM) {r c r' c' : Nat} (f : Nat → Int32) (h : ¬ (r' = r ∧ c' = c)) : xp N r c f r' c' = N r' c' := by
  unfold xp
  by_cases hr : r' = r
  · subst hr
    rw [va_up_eq, va_up_no _ _ (fun e => h ⟨rfl, e⟩)]
  · rw [va_up_no _ _ hr]
theorem xg_eq (G : xG) (r c : Nat) (f : Nat → Option (Nat × Nat)) : xg G r c f r c = f := by unfold xg; rw [va_up_eq, va_up_eq]
theorem xg_no (G : xG) {r c r' c' : Nat} (f : Nat → Option (Nat × Nat)) (h : ¬ (r' = r ∧ c' = c)) : xg G r c f r' c' = G r' c' := by
  unfold xg
  by_cases hr : r' = r
  · subst hr
    rw [va_up_eq, va_up_no _ _ (fun e => h ⟨rfl, e⟩)]
  · rw [va_up_no _ _ hr]
theorem xcell_congr {I : xD} {ρ : xP} {G G' : xG} {N N' : xM} {r c : Nat} (h1 : G r c = G' r c) (h2 : N r c = N' r c) (k : Nat × Nat) : xcell I ρ G N r c k = xcell I ρ G' N' r c k := by
  rcases k with ⟨_ | _ | _ | _ | k, n⟩ <;> simp [xcell, xfs, h1, h2]
theorem xw_get {I : xD} {ρ : xP} {Y : xY} {G : xG} {N : xM} {i r c : Nat} {k : Nat × Nat} (h : Y[i]? = some ((r, c), k)) : (xw I ρ Y G N)[i]? = some (ρ r c, xcell I ρ G N r c k) := by
  unfold xw
  rw [List.getElem?_map, h]
  rfl
theorem xw_set {I : xD} {ρ : xP} {Y : xY} {G G' : xG} {N N' : xM} {A : Nat → Prop} {i r c : Nat} {k : Nat × Nat} (hD : va_D A (xw I ρ Y G N)) (h : Y[i]? = some ((r, c), k)) (hN : ∀ r' c', ¬ (r' = r ∧ c' = c) → N r' c' = N' r' c') (hG : ∀ r' c', ¬ (r' = r ∧ c' = c) → G r' c' = G' r' c') :
    (xw I ρ Y G N).set i (ρ r c, xcell I ρ G' N' r c k) = xw I ρ Y G' N' := by
  apply List.ext_getElem?
  intro j
  have hlt : i < (xw I ρ Y G N).length := (List.getElem?_eq_some_iff.mp (xw_get h)).1
  by_cases e : j = i
  · subst e
    rw [List.getElem?_set_self hlt, xw_get h]
  · rw [List.getElem?_set_ne (fun q => e q.symm)]
    cases hj : Y[j]? with
    | none => unfold xw; rw [List.getElem?_map, List.getElem?_map, hj]; rfl
    | some q =>
      obtain ⟨⟨r', c'⟩, k'⟩ := q
      rw [xw_get hj, xw_get hj]
      have hne : ¬ (r' = r ∧ c' = c) := by
        rintro ⟨rfl, rfl⟩
        exact e (hD.1 j i _ _ (xw_get hj) (xw_get h) rfl)
      rw [xcell_congr (hG r' c' hne) (hN r' c' hne)]
theorem xw_app {I : xD} {ρ : xP} {Y Y' : xY} {G : xG} {N : xM} : xw I ρ (Y ++ Y') G N = xw I ρ Y G N ++ xw I ρ Y' G N := by
  unfold xw; rw [List.map_append]
/-- the addresses of what is there (and of what it points at) alone matter -/
theorem xw_rho {I : xD} {ρ ρ' : xP} {Y : xY} {G : xG} {N : xM} (h : ∀ q k, (q, k) ∈ Y → ρ' q.1 q.2 = ρ q.1 q.2) (hG : ∀ r c k q, G r c k = some q → ∃ kd, (q, kd) ∈ Y) : xw I ρ' Y G N = xw I ρ Y G N := by
  have hq : ∀ r c k, xq ρ' (G r c k) = xq ρ (G r c k) := by
    intro r c k
    unfold xq
    cases hg : G r c k with
    | none => rfl
    | some q =>
      obtain ⟨kd, hk⟩ := hG r c k q hg
      simp [h q kd hk]
  have hc : ∀ r c k, xcell I ρ' G N r c k = xcell I ρ G N r c k := by
    intro r c k
    rcases k with ⟨_ | _ | _ | _ | k, n⟩ <;> simp [xcell, xfs, hq]
  unfold xw
  apply List.map_congr_left
  intro q hq'
  obtain ⟨q, k⟩ := q
  rw [h q k hq', hc]
theorem xfs_len {ρ : xP} {G : xG} {N : xM} {r c ci : Nat} : (xfs ρ G N r c ci).length = (xF ci).length := by unfold xfs; rw [List.length_mapIdx]
theorem xfs_I {ρ : xP} {G : xG} {N : xM} {r c ci k : Nat} (h : (xF ci)[k]? = some false) : (xfs ρ G N r c ci)[k]? = some (.int (N r c k)) := by
  unfold xfs; rw [List.getElem?_mapIdx, h]; rfl
theorem xfs_R {ρ : xP} {G : xG} {N : xM} {r c ci k : Nat} (h : (xF ci)[k]? = some true) : (xfs ρ G N r c ci)[k]? = some (va_rf (xq ρ (G r c k))) := by
  unfold xfs; rw [List.getElem?_mapIdx, h]; rfl
theorem xfs_setI {ρ : xP} {G : xG} {N : xM} {r c ci k : Nat} {x : Int32} (h : (xF ci)[k]? = some false) : (xfs ρ G N r c ci).set k (.int x) = xfs ρ G (xp N r c (upd (N r c) k x)) r c ci := by
  apply List.ext_getElem?
  intro j
  have hlt : k < (xfs ρ G N r c ci).length := (List.getElem?_eq_some_iff.mp (xfs_I h)).1
  by_cases e : j = k
  · subst e
    rw [List.getElem?_set_self hlt, xfs_I h, xp_eq]
    simp [upd]
  · rw [List.getElem?_set_ne (fun q => e q.symm)]
    unfold xfs
    rw [List.getElem?_mapIdx, List.getElem?_mapIdx, xp_eq]
    simp [upd, e]
theorem xfs_setR {ρ : xP} {G : xG} {N : xM} {r c ci k : Nat} {x : Option (Nat × Nat)} (h : (xF ci)[k]? = some true) : (xfs ρ G N r c ci).set k (va_rf (xq ρ x)) = xfs ρ (xg G r c (va_up (G r c) k x)) N r c ci := by
  apply List.ext_getElem?
  intro j
  have hlt : k < (xfs ρ G N r c ci).length := (List.getElem?_eq_some_iff.mp (xfs_R h)).1
  by_cases e : j = k
  · subst e
    rw [List.getElem?_set_self hlt, xfs_R h, xg_eq, va_up_eq]
  · rw [List.getElem?_set_ne (fun q => e q.symm)]
    unfold xfs
    rw [List.getElem?_mapIdx, List.getElem?_mapIdx, xg_eq]
    simp [va_up, e]
/-- the locals, listed as the kit lists them -/
def xL (ρ : xP) : Nat → List (Option xAV) → List (Nat × Value)
  | _, [] => []
  | i, none :: l => xL ρ (i + 1) l
  | i, some v :: l => (i, xt ρ v) :: xL ρ (i + 1) l
theorem xL_mem {ρ : xP} {j : Nat} {w : Value} : ∀ {l : List (Option xAV)} {i : Nat}, (j, w) ∈ xL ρ i l ↔ ∃ v, i ≤ j ∧ l[j - i]? = some (some v) ∧ w = xt ρ v
  | [], i => by simp [xL]
  | none :: l, i => by
    rw [xL, xL_mem]
    constructor
    · rintro ⟨v, h1, h2, h3⟩
      refine ⟨v, by omega, ?_, h3⟩
      rw [show j - i = (j - (i + 1)) + 1 by omega]
      exact h2
    · rintro ⟨v, h1, h2, h3⟩
      have hne : j ≠ i := by
        rintro rfl
        rw [Nat.sub_self] at h2
        cases h2
      refine ⟨v, by omega, ?_, h3⟩
      rw [show j - i = (j - (i + 1)) + 1 by omega] at h2
      exact h2
  | some v0 :: l, i => by
    rw [xL, List.mem_cons, xL_mem]
    constructor
    · rintro (h | ⟨v, h1, h2, h3⟩)
      · cases h
        exact ⟨v0, Nat.le_refl _, by rw [Nat.sub_self]; rfl, rfl⟩
      · refine ⟨v, by omega, ?_, h3⟩
        rw [show j - i = (j - (i + 1)) + 1 by omega]
        exact h2
    · rintro ⟨v, h1, h2, h3⟩
      by_cases hne : j = i
      · subst hne
        rw [Nat.sub_self] at h2
        cases h2
        exact Or.inl (by rw [h3])
      · refine Or.inr ⟨v, by omega, ?_, h3⟩
        rw [show j - i = (j - (i + 1)) + 1 by omega] at h2
        exact h2
theorem xL_at {ρ : xP} {ls : Array Slot} {nL : Nat} {loc : List (Option xAV)} (h : lv_has ls nL (xL ρ 0 loc)) {k : Nat} {v : xAV} (hk : loc[k]? = some (some v)) : ls[k]? = some (.val (xt ρ v)) :=
  h.2.2 (k, xt ρ v) (xL_mem.mpr ⟨v, Nat.zero_le _, hk, rfl⟩)
theorem xL_cat (ρ : xP) (v : xAV) : (xt ρ v).category = 2 ↔ ∃ x, v = xJ x := by
  rcases v with (v | v) | (_ | v) <;> simp [xt, Value.category]
/-- a store of one word: the place's own value; what stands before it may be no long -/
theorem xL_set1 {ρ : xP} {loc : List (Option xAV)} {i : Nat} {v : xAV} (hi : i < loc.length) (hp : ∀ x, loc[i - 1]? = some (some (xJ x)) → i = 0) : ∀ q ∈ xL ρ 0 (loc.set i (some v)), q ∈ (i, xt ρ v) :: (xL ρ 0 loc).filter (fun q => !(q.1 == i) && !(q.1 + 1 == i && q.2.category == 2)) := by
  rintro ⟨j, w⟩ hq
  obtain ⟨u, -, h2, rfl⟩ := xL_mem.mp hq
  rw [Nat.sub_zero] at h2
  by_cases e : j = i
  · subst e
    rw [List.getElem?_set_self hi] at h2
    cases h2
    exact List.mem_cons_self
  · rw [List.getElem?_set_ne (fun q => e q.symm)] at h2
    refine List.mem_cons_of_mem _ (List.mem_filter.mpr ⟨xL_mem.mpr ⟨u, Nat.zero_le _, h2, rfl⟩, ?_⟩)
    have h3 : ¬ (j + 1 = i ∧ (xt ρ u).category = 2) := by
      rintro ⟨h4, h5⟩
      obtain ⟨x, rfl⟩ := (xL_cat ρ u).mp h5
      have := hp x (by rw [show i - 1 = j by omega]; exact h2)
      omega
    simp only [Bool.and_eq_true, Bool.not_eq_true', beq_eq_false_iff_ne, ne_eq, Bool.and_eq_false_iff]
    refine ⟨e, ?_⟩
    by_cases h4 : j + 1 = i
    · exact Or.inr (fun h5 => h3 ⟨h4, h5⟩)
    · exact Or.inl h4
theorem xL_set2 {ρ : xP} {loc : List (Option xAV)} {i : Nat} {v : xAV} (hi : i + 1 < loc.length) (hp : ∀ x, loc[i - 1]? = some (some (xJ x)) → i = 0) : ∀ q ∈ xL ρ 0 ((loc.set i (some v)).set (i + 1) none), q ∈ (i, xt ρ v) :: (xL ρ 0 loc).filter (fun q => !(q.1 == i) && (!(q.1 == i + 1) && !(q.1 + 1 == i && q.2.category == 2))) := by
  rintro ⟨j, w⟩ hq
  obtain ⟨u, -, h2, rfl⟩ := xL_mem.mp hq
  rw [Nat.sub_zero] at h2
  by_cases e1 : j = i + 1
  · subst e1
    rw [List.getElem?_set_self (by rw [List.length_set]; exact hi)] at h2
    cases h2
  rw [List.getElem?_set_ne (fun q => e1 q.symm)] at h2
  by_cases e : j = i
  · subst e
    rw [List.getElem?_set_self (by omega)] at h2
    cases h2
    exact List.mem_cons_self
  · rw [List.getElem?_set_ne (fun q => e q.symm)] at h2
    refine List.mem_cons_of_mem _ (List.mem_filter.mpr ⟨xL_mem.mpr ⟨u, Nat.zero_le _, h2, rfl⟩, ?_⟩)
    have h3 : ¬ (j + 1 = i ∧ (xt ρ u).category = 2) := by
      rintro ⟨h4, h5⟩
      obtain ⟨x, rfl⟩ := (xL_cat ρ u).mp h5
      have := hp x (by rw [show i - 1 = j by omega]; exact h2)
      omega
    simp only [Bool.and_eq_true, Bool.not_eq_true', beq_eq_false_iff_ne, ne_eq, Bool.and_eq_false_iff]
    refine ⟨e, e1, ?_⟩
    by_cases h4 : j + 1 = i
    · exact Or.inr (fun h5 => h3 ⟨h4, h5⟩)
    · exact Or.inl h4
theorem lv_less {ls : Array Slot} {nL : Nat} {l l' : List (Nat × Value)} (h : lv_has ls nL l) (hl : ∀ q ∈ l', q ∈ l) : lv_has ls nL l' := ⟨h.1, h.2.1, fun q hq => h.2.2 q (hl q hq)⟩
/-- the locals at a method's entry -/
def xE : List xAV → List (Option xAV)
  | [] => []
  | .inl (.inr v) :: l => some (xJ v) :: none :: xE l
  | v :: l => some v :: xE l
theorem xE_in {ρ : xP} {q : Nat × Value} {n : Nat} : ∀ (as : List xAV) (i : Nat), q ∈ xL ρ i (xE as ++ List.replicate n none) → q ∈ lv_args i (as.map (xt ρ))
  | [], i => by
    intro h
    obtain ⟨j, w⟩ := q
    obtain ⟨v, h1, h2, -⟩ := xL_mem.mp h
    rw [xE, List.nil_append, List.getElem?_replicate] at h2
    split at h2 <;> cases h2
  | .inl (.inr v) :: as, i => by
    intro h
    rw [xE, List.cons_append, List.cons_append, xL, xL, List.mem_cons] at h
    rw [List.map_cons, lv_args]
    rcases h with h | h
    · exact List.mem_cons.mpr (Or.inl h)
    · exact List.mem_cons_of_mem _ (xE_in as (i + 2) h)
  | .inl (.inl v) :: as, i => by
    intro h
    rw [xE, List.cons_append, xL, List.mem_cons] at h
    · rw [List.map_cons, lv_args]
      rcases h with h | h
      · exact List.mem_cons.mpr (Or.inl h)
      · exact List.mem_cons_of_mem _ (xE_in as (i + 1) h)
    · intro v h; cases h
  | .inr v :: as, i => by
    intro h
    rw [xE, List.cons_append, xL, List.mem_cons] at h
    · rw [List.map_cons, lv_args]
      have hc : ¬ (xt ρ (.inr v)).category = 2 := by rcases v with _ | v <;> simp [xt, Value.category]
      rw [if_neg hc]
      rcases h with h | h
      · exact List.mem_cons.mpr (Or.inl h)
      · exact List.mem_cons_of_mem _ (xE_in as (i + 1) h)
    · intro v h; cases h
end
section
/-! THE CALCULUS: V, a walk over the abstract world -/
def xWd : List Cond := lw_tbl.filter goodWord
theorem xWd_in {w : Cond} (h : w ∈ lw_tbl) (hg : goodWord w = true) : w ∈ xWd := List.mem_filter.mpr ⟨h, hg⟩
theorem xWd_good : GoodIn xWd xWd := fun w h => ⟨h, good_of_word (List.mem_filter.mp h).2⟩
def xIsNest : Cond → Bool
  | .methodLinkNest _ _ _ _ => true
  | _ => false
def xNest : List Cond := lw_tbl.filter xIsNest
/-- MarbleRun$Asker.PARENTS, as the Statement gives it -/
def xPar : Nat → Int32 := fun k => match k with
  | 0 => -1000000
  | 1 => 0
  | 2 => 1
  | 3 => 1
  | 4 => 0
  | _ => 4
def xAOA (t : FieldType) (U : State) : Prop := (Cond.arrayOver (.array t)).before #[] U = true
theorem xAOA_of {t : FieldType} {A : Array Value} {U : State} (h : (Cond.arrayOver (.array t)).before A U = true) : xAOA t U := h
theorem xAOA_use {t : FieldType} {A : Array Value} {U : State} (h : xAOA t U) : (Cond.arrayOver (.array t)).before A U = true := h
theorem xAOA_moved {t : FieldType} {u U : State} (hvm : u.vm.Alike U.vm) (h : xAOA t u) : xAOA t U := by
  obtain ⟨comp, c, k, h1, h2, h3, h4, h5⟩ := arrayOverA_spec h
  obtain ⟨k', hk', he⟩ := hvm.2.2 _ _ h3
  have hi : (U.vm.classes.findIdx? fun (x : Class) => match x.kind with | .array component _ => component == comp | _ => false) = some c := by
    have e1 := va_idx_bare U.vm comp
    have e2 := va_idx_bare u.vm comp
    have e3 : U.vm.bare = u.vm.bare := by first | exact hvm.bare_eq | exact hvm.bare_eq.symm
    rw [e3] at e1
    exact e1.symm.trans (e2.trans h2)
  have hkind : k'.kind = .array comp (.array t) := by rw [he]; exact h4
  have f1 : U.vm.findClass (FieldType.array t).toString = some comp := by rw [hvm.findClass]; exact h1
  have f2 : U.vm.findClass ("[" ++ (FieldType.array t).toString) = some c := by rw [hvm.findClass]; exact h5
  unfold xAOA Cond.before Cond.holds
  simp only [Cond.value]
  rw [f1, Option.bind_some]
  refine (congrArg (fun o : Option Nat => (o.bind (fun c => (U.vm.classes[c]?).map fun (k : Class) => match k.kind with | .array _ ty => decide (ty = FieldType.array t) && decide (U.vm.findClass ("[" ++ (FieldType.array t).toString) = some c) | _ => false) == some true)) hi).trans ?_
  simp [hk', hkind, f2]
def xTys (I : xD) : List (ClassId × FieldType) := [(I.1, .int), (I.2.1, .boolean), (I.2.2.1, .object "MarbleRun$Track"), (I.2.2.2, .array .int)]
def xCx (own : String) (ini : Bool) (cc : ByteArray) (nL : Nat) (ret : Option FieldType) (d : Nat) (p : Program) (R : Room) (s : State) (m : MethodId) (args : Array Value) (meth : Method) (c : Code) : Prop :=
  p.tables.exec = Jvm.exec ∧ c.code = cc ∧ meth.sig.returnType = ret ∧ meth.locks = false ∧ c.maxLocals = nL ∧ s.vm.findClass own = some m.cls ∧ (∀ w ∈ xWd, w.before args s = true) ∧ d ≤ R.frames ∧ 64 * d ≤ R.locals ∧ (ini = true → meth.name = "<init>")
/-- what holds of the start's state all along: classes, array classes, the script, PARENTS -/
def xFx (I : xD) (D : va_G) (A : Nat → Prop) (ρe : xP) (X : Option (Nat × (Nat → Int32))) (s : State) : Prop :=
  va_K D vwCl (xTys I) s ∧ va_AO "MarbleRun$Track" s ∧ xAOA .int s ∧ (∀ w ∈ xNest, va_Nw w s) ∧ (∀ q, s.heap.size ≤ q → A q) ∧
  va_Z "MarbleRun$Asker" "PARENTS" "[I" (.ref (ρe 1000001 0)) A s s.heap ∧ va_T .int (ρe 1000001 0) 6 (fun j => .int (xPar j)) A s s.heap ∧
  (∀ L xs, X = some (L, xs) → va_X (ρe 1000000 0) L xs s s.heap ∧ ρe 1000000 0 < s.heap.size ∧ ¬ A (ρe 1000000 0))
def xZe (Y : xY) (G : xG) (N : xM) : Prop := (∀ r c, (∀ k, ((r, c), k) ∉ Y) → N r c = (fun _ => 0) ∧ G r c = fun _ => none) ∧ (∀ r c k q, G r c k = some q → ∃ kd, (q, kd) ∈ Y) ∧ ∀ q k, (q, k) ∈ Y → q.1 < 1000000
def xWo (I : xD) (D : va_G) (A : Nat → Prop) (H0 H : Heap) (locs : List Loc) (ρ : xP) (Y : xY) (G : xG) (N : xM) : Prop :=
  va_P D vwCl (xw I ρ Y G N) H ∧ va_D A (xw I ρ Y G N) ∧ va_S A H0 H locs ∧ xZe Y G N
def xAg (Ye : xY) (ρe : xP) (Y : xY) (ρ : xP) : Prop := (∀ q k, (q, k) ∈ Ye → ρ q.1 q.2 = ρe q.1 q.2 ∧ (q, k) ∈ Y) ∧ ∀ r c, 1000000 ≤ r → ρ r c = ρe r c
/-- an answer as the method's descriptor has it -/
def xOk (ret : Option FieldType) (Y : xY) : Option xAV → Prop
  | none => ret = none
  | some (.inl (.inl v)) => ∃ ty, ret = some ty ∧ narrow ty (.int v) = .int v
  | some (.inl (.inr _)) => ret = some .long
  | some (.inr q) => (∃ rt, ret = some rt ∧ ((∃ n, rt = .object n) ∨ ∃ t, rt = .array t)) ∧ ∀ a, q = some a → ∃ kd, (a, kd) ∈ Y
def xRi : Option xAV → Instr
  | none => .return_
  | some (.inl (.inl _)) => .ireturn
  | some (.inl (.inr _)) => .lreturn
  | some (.inr _) => .areturn
def V (own : String) (ini : Bool) (cc : ByteArray) (nL : Nat) (ret : Option FieldType) (X : Option (Nat × (Nat → Int32))) (d : Nat) (b : Nat × Nat) (pc : Nat) (loc : List (Option xAV)) (st : List xAV) (Y : xY) (G : xG) (N : xM) (Q : Option xAV → xY → xG → xM → Prop) : Prop :=
  ∀ (p : Program) (l : Launch) (e : Env) (R : Room) (s : State) (m : MethodId) (args : Array Value) (below : List Frame) (meth : Method) (c : Code) (D : va_G) (I : xD) (A : Nat → Prop) (ρe : xP) (Ye : xY) (ρ : xP) (H : Heap) (locs : List Loc) (cells slots : Nat) (ls : Array Slot) (Qm : State → Prop),
    xCx own ini cc nL ret d p R s m args meth c → xFx I D A ρe X s → xWo I D A s.heap H locs ρ Y G N → xAg Ye ρe Y ρ → lv_has ls nL (xL ρ 0 loc) ∧ loc.length = nL → cells + b.1 ≤ R.cells ∧ slots + b.2 ≤ R.slots →
    (∀ (r : Option xAV) (Y' : xY) (G' : xG) (N' : xM) (ρ' : xP) (H' : Heap) (locs' : List Loc) (cells' slots' pc' : Nat) (ls' : Array Slot), Q r Y' G' N' → xOk ret Y' r → xWo I D A s.heap H' locs' ρ' Y' G' N' → xAg Ye ρe Y' ρ' → cells' ≤ R.cells ∧ slots' ≤ R.slots → decode cc pc' = .ok (xRi r, 1) →
      W p l e R s m args below meth c H' locs' cells' slots' Qm (F0 m pc' ls' (r.toList.map (xt ρ')))) →
    W p l e R s m args below meth c H locs cells slots Qm (F0 m pc ls (st.map (xt ρ)))
theorem V.mono {own : String} {ini : Bool} {cc : ByteArray} {nL : Nat} {ret : Option FieldType} {X : Option (Nat × (Nat → Int32))} {d : Nat} {b : Nat × Nat} {pc : Nat} {loc : List (Option xAV)} {st : List xAV} {Y : xY} {G : xG} {N : xM} {Q Q' : Option xAV → xY → xG → xM → Prop}
    (h : V own ini cc nL ret X d b pc loc st Y G N Q) (hq : ∀ r Y' G' N', Q r Y' G' N' → Q' r Y' G' N') : V own ini cc nL ret X d b pc loc st Y G N Q' := by
  intro p l e R s m args below meth c D I A ρe Ye ρ H locs cells slots ls Qm C F Wo Ag hl hb hE
  exact h p l e R s m args below meth c D I A ρe Ye ρ H locs cells slots ls Qm C F Wo Ag hl hb (fun r Y' G' N' ρ' H' locs' cells' slots' pc' ls' q => hE r Y' G' N' ρ' H' locs' cells' slots' pc' ls' (hq r Y' G' N' q))
section XR
variable {own : String} {ini : Bool} {cc : ByteArray} {nL : Nat} {ret : Option FieldType} {X : Option (Nat × (Nat → Int32))} {d : Nat} {b : Nat × Nat} {pc : Nat} {loc : List (Option xAV)} {st : List xAV} {Y : xY} {G : xG} {N : xM} {Q : Option xAV → xY → xG → xM → Prop}
theorem V_iconst {n : Int} {v : Int32} (hd : decode cc pc = .ok (.iconst n, 1)) (hv : Int32.ofInt n = v) (k : V own ini cc nL ret X d b (pc + 1) loc (xI v :: st) Y G N Q) : V own ini cc nL ret X d b pc loc st Y G N Q := by
  intro p l e R s m args below meth c D I A ρe Ye ρ H locs cells slots ls Qm C F Wo Ag hl hb hE
  exact lv_iconst C.1 C.2.1 hd hv (k p l e R s m args below meth c D I A ρe Ye ρ H locs cells slots ls Qm C F Wo Ag hl hb hE)
theorem V_bipush {n : Int} {v : Int32} (hd : decode cc pc = .ok (.bipush n, 2)) (hv : (Int8.ofInt n).toInt32 = v) (k : V own ini cc nL ret X d b (pc + 2) loc (xI v :: st) Y G N Q) : V own ini cc nL ret X d b pc loc st Y G N Q := by
  intro p l e R s m args below meth c D I A ρe Ye ρ H locs cells slots ls Qm C F Wo Ag hl hb hE
  exact lv_bipush C.1 C.2.1 hd hv (k p l e R s m args below meth c D I A ρe Ye ρ H locs cells slots ls Qm C F Wo Ag hl hb hE)
theorem V_sipush {n : Int} {v : Int32} (hd : decode cc pc = .ok (.sipush n, 3)) (hv : (Int16.ofInt n).toInt32 = v) (k : V own ini cc nL ret X d b (pc + 3) loc (xI v :: st) Y G N Q) : V own ini cc nL ret X d b pc loc st Y G N Q := by
  intro p l e R s m args below meth c D I A ρe Ye ρ H locs cells slots ls Qm C F Wo Ag hl hb hE
  exact lv_sipush C.1 C.2.1 hd hv (k p l e R s m args below meth c D I A ρe Ye ρ H locs cells slots ls Qm C F Wo Ag hl hb hE)
theorem V_lconst {n : Fin 2} {v : Int64} (hd : decode cc pc = .ok (.lconst n, 1)) (hv : Int64.ofNat (n : Nat) = v) (k : V own ini cc nL ret X d b (pc + 1) loc (xJ v :: st) Y G N Q) : V own ini cc nL ret X d b pc loc st Y G N Q := by
  intro p l e R s m args below meth c D I A ρe Ye ρ H locs cells slots ls Qm C F Wo Ag hl hb hE
  exact lv_lconst C.1 C.2.1 hd hv (k p l e R s m args below meth c D I A ρe Ye ρ H locs cells slots ls Qm C F Wo Ag hl hb hE)
theorem V_ldc {i : Nat} {v : Int32} (hd : decode cc pc = .ok (.ldc i, 2)) (hw : Cond.constant own i v ∈ xWd) (k : V own ini cc nL ret X d b (pc + 2) loc (xI v :: st) Y G N Q) : V own ini cc nL ret X d b pc loc st Y G N Q := by
  intro p l e R s m args below meth c D I A ρe Ye ρ H locs cells slots ls Qm C F Wo Ag hl hb hE
  exact lv_ldc C.1 C.2.1 C.2.2.2.2.2.1 (C.2.2.2.2.2.2.1 _ hw) hd (k p l e R s m args below meth c D I A ρe Ye ρ H locs cells slots ls Qm C F Wo Ag hl hb hE)
theorem V_ldc_w {i : Nat} {v : Int32} (hd : decode cc pc = .ok (.ldc_w i, 3)) (hw : Cond.constant own i v ∈ xWd) (k : V own ini cc nL ret X d b (pc + 3) loc (xI v :: st) Y G N Q) : V own ini cc nL ret X d b pc loc st Y G N Q := by
  intro p l e R s m args below meth c D I A ρe Ye ρ H locs cells slots ls Qm C F Wo Ag hl hb hE
  exact lv_ldcw C.1 C.2.1 C.2.2.2.2.2.1 (C.2.2.2.2.2.2.1 _ hw) hd (k p l e R s m args below meth c D I A ρe Ye ρ H locs cells slots ls Qm C F Wo Ag hl hb hE)
theorem V_ldc2 {i : Nat} {v : Int64} (hd : decode cc pc = .ok (.ldc2_w i, 3)) (hw : Cond.constantLong own i v ∈ xWd) (k : V own ini cc nL ret X d b (pc + 3) loc (xJ v :: st) Y G N Q) : V own ini cc nL ret X d b pc loc st Y G N Q := by
  intro p l e R s m args below meth c D I A ρe Ye ρ H locs cells slots ls Qm C F Wo Ag hl hb hE
  exact lv_ldc2 C.1 C.2.1 C.2.2.2.2.2.1 (C.2.2.2.2.2.2.1 _ hw) hd (k p l e R s m args below meth c D I A ρe Ye ρ H locs cells slots ls Qm C F Wo Ag hl hb hE)
theorem V_null  (hd : decode cc pc = .ok (.aconst_null, 1)) (k : V own ini cc nL ret X d b (pc + 1) loc (xN :: st) Y G N Q) : V own ini cc nL ret X d b pc loc st Y G N Q := by
  intro p l e R s m args below meth c D I A ρe Ye ρ H locs cells slots ls Qm C F Wo Ag hl hb hE
  exact lv_null C.1 C.2.1 hd (k p l e R s m args below meth c D I A ρe Ye ρ H locs cells slots ls Qm C F Wo Ag hl hb hE)
theorem V_iload_n {i : Fin 4} {x : Int32} (hd : decode cc pc = .ok (.iload_n i, 1)) (hx : loc[(i : Nat)]? = some (some (xI x))) (k : V own ini cc nL ret X d b (pc + 1) loc (xI x :: st) Y G N Q) : V own ini cc nL ret X d b pc loc st Y G N Q := by
  intro p l e R s m args below meth c D I A ρe Ye ρ H locs cells slots ls Qm C F Wo Ag hl hb hE
  exact lv_iload_n C.1 C.2.1 hd rfl (xL_at hl.1 hx) (k p l e R s m args below meth c D I A ρe Ye ρ H locs cells slots ls Qm C F Wo Ag hl hb hE)
theorem V_iload {i : Nat} {x : Int32} (hd : decode cc pc = .ok (.iload i, 2)) (hx : loc[i]? = some (some (xI x))) (k : V own ini cc nL ret X d b (pc + 2) loc (xI x :: st) Y G N Q) : V own ini cc nL ret X d b pc loc st Y G N Q := by
  intro p l e R s m args below meth c D I A ρe Ye ρ H locs cells slots ls Qm C F Wo Ag hl hb hE
  exact lv_iload C.1 C.2.1 hd (xL_at hl.1 hx) (k p l e R s m args below meth c D I A ρe Ye ρ H locs cells slots ls Qm C F Wo Ag hl hb hE)
theorem V_lload_n {i : Fin 4} {x : Int64} (hd : decode cc pc = .ok (.lload_n i, 1)) (hx : loc[(i : Nat)]? = some (some (xJ x))) (k : V own ini cc nL ret X d b (pc + 1) loc (xJ x :: st) Y G N Q) : V own ini cc nL ret X d b pc loc st Y G N Q := by
  intro p l e R s m args below meth c D I A ρe Ye ρ H locs cells slots ls Qm C F Wo Ag hl hb hE
  exact lv_lload_n C.1 C.2.1 hd rfl (xL_at hl.1 hx) (k p l e R s m args below meth c D I A ρe Ye ρ H locs cells slots ls Qm C F Wo Ag hl hb hE)
theorem V_lload {i : Nat} {x : Int64} (hd : decode cc pc = .ok (.lload i, 2)) (hx : loc[i]? = some (some (xJ x))) (k : V own ini cc nL ret X d b (pc + 2) loc (xJ x :: st) Y G N Q) : V own ini cc nL ret X d b pc loc st Y G N Q := by
  intro p l e R s m args below meth c D I A ρe Ye ρ H locs cells slots ls Qm C F Wo Ag hl hb hE
  exact lv_lload C.1 C.2.1 hd (xL_at hl.1 hx) (k p l e R s m args below meth c D I A ρe Ye ρ H locs cells slots ls Qm C F Wo Ag hl hb hE)
theorem V_aload_n {i : Fin 4} {r c : Nat} (hd : decode cc pc = .ok (.aload_n i, 1)) (hx : loc[(i : Nat)]? = some (some (xR r c))) (k : V own ini cc nL ret X d b (pc + 1) loc (xR r c :: st) Y G N Q) : V own ini cc nL ret X d b pc loc st Y G N Q := by
  intro p l e R s m args below meth c D I A ρe Ye ρ H locs cells slots ls Qm C F Wo Ag hl hb hE
  exact lv_aload_n C.1 C.2.1 hd rfl (xL_at hl.1 hx) (k p l e R s m args below meth c D I A ρe Ye ρ H locs cells slots ls Qm C F Wo Ag hl hb hE)
theorem V_aload {i : Nat} {r c : Nat} (hd : decode cc pc = .ok (.aload i, 2)) (hx : loc[i]? = some (some (xR r c))) (k : V own ini cc nL ret X d b (pc + 2) loc (xR r c :: st) Y G N Q) : V own ini cc nL ret X d b pc loc st Y G N Q := by
  intro p l e R s m args below meth c D I A ρe Ye ρ H locs cells slots ls Qm C F Wo Ag hl hb hE
  exact lv_aload C.1 C.2.1 hd (xL_at hl.1 hx) (k p l e R s m args below meth c D I A ρe Ye ρ H locs cells slots ls Qm C F Wo Ag hl hb hE)
theorem V_istore_n {i : Fin 4} {x : Int32} (hd : decode cc pc = .ok (.istore_n i, 1)) (hi : (i : Nat) < loc.length) (hp : ∀ x, loc[(i : Nat) - 1]? = some (some (xJ x)) → (i : Nat) = 0) (k : V own ini cc nL ret X d b (pc + 1) (loc.set (i : Nat) (some (xI x))) st Y G N Q) : V own ini cc nL ret X d b pc loc ((xI x) :: st) Y G N Q := by
  intro p l e R s m args below meth c D I A ρe Ye ρ H locs cells slots ls Qm C F Wo Ag hl hb hE
  exact lv_istore_n C.1 C.2.1 hd rfl hl.1 (by rw [← hl.2]; exact hi) rfl (fun ls' hl' => k p l e R s m args below meth c D I A ρe Ye ρ H locs cells slots ls' Qm C F Wo Ag ⟨lv_less hl' (xL_set1 (v := (xI x)) hi hp), (by rw [List.length_set]; exact hl.2)⟩ hb hE)
theorem V_istore {i : Nat} {x : Int32} (hd : decode cc pc = .ok (.istore i, 2)) (hi : i < loc.length) (hp : ∀ x, loc[i - 1]? = some (some (xJ x)) → i = 0) (k : V own ini cc nL ret X d b (pc + 2) (loc.set i (some (xI x))) st Y G N Q) : V own ini cc nL ret X d b pc loc ((xI x) :: st) Y G N Q := by
  intro p l e R s m args below meth c D I A ρe Ye ρ H locs cells slots ls Qm C F Wo Ag hl hb hE
  exact lv_istore C.1 C.2.1 hd hl.1 (by rw [← hl.2]; exact hi) rfl (fun ls' hl' => k p l e R s m args below meth c D I A ρe Ye ρ H locs cells slots ls' Qm C F Wo Ag ⟨lv_less hl' (xL_set1 (v := (xI x)) hi hp), (by rw [List.length_set]; exact hl.2)⟩ hb hE)
theorem V_lstore_n {i : Fin 4} {x : Int64} (hd : decode cc pc = .ok (.lstore_n i, 1)) (hi : (i : Nat) + 1 < loc.length) (hp : ∀ x, loc[(i : Nat) - 1]? = some (some (xJ x)) → (i : Nat) = 0) (k : V own ini cc nL ret X d b (pc + 1) ((loc.set (i : Nat) (some (xJ x))).set ((i : Nat) + 1) none) st Y G N Q) : V own ini cc nL ret X d b pc loc ((xJ x) :: st) Y G N Q := by
  intro p l e R s m args below meth c D I A ρe Ye ρ H locs cells slots ls Qm C F Wo Ag hl hb hE
  exact lv_lstore_n C.1 C.2.1 hd rfl hl.1 (by rw [← hl.2]; exact hi) rfl (fun ls' hl' => k p l e R s m args below meth c D I A ρe Ye ρ H locs cells slots ls' Qm C F Wo Ag ⟨lv_less hl' (xL_set2 (v := (xJ x)) hi hp), (by rw [List.length_set, List.length_set]; exact hl.2)⟩ hb hE)
theorem V_lstore {i : Nat} {x : Int64} (hd : decode cc pc = .ok (.lstore i, 2)) (hi : i + 1 < loc.length) (hp : ∀ x, loc[i - 1]? = some (some (xJ x)) → i = 0) (k : V own ini cc nL ret X d b (pc + 2) ((loc.set i (some (xJ x))).set (i + 1) none) st Y G N Q) : V own ini cc nL ret X d b pc loc ((xJ x) :: st) Y G N Q := by
  intro p l e R s m args below meth c D I A ρe Ye ρ H locs cells slots ls Qm C F Wo Ag hl hb hE
  exact lv_lstore C.1 C.2.1 hd hl.1 (by rw [← hl.2]; exact hi) rfl (fun ls' hl' => k p l e R s m args below meth c D I A ρe Ye ρ H locs cells slots ls' Qm C F Wo Ag ⟨lv_less hl' (xL_set2 (v := (xJ x)) hi hp), (by rw [List.length_set, List.length_set]; exact hl.2)⟩ hb hE)
theorem V_astore_n {i : Fin 4} {r q : Nat} (hd : decode cc pc = .ok (.astore_n i, 1)) (hi : (i : Nat) < loc.length) (hp : ∀ x, loc[(i : Nat) - 1]? = some (some (xJ x)) → (i : Nat) = 0) (k : V own ini cc nL ret X d b (pc + 1) (loc.set (i : Nat) (some (xR r q))) st Y G N Q) : V own ini cc nL ret X d b pc loc ((xR r q) :: st) Y G N Q := by
  intro p l e R s m args below meth c D I A ρe Ye ρ H locs cells slots ls Qm C F Wo Ag hl hb hE
  exact lv_astore_n C.1 C.2.1 hd rfl hl.1 (by rw [← hl.2]; exact hi) rfl (fun ls' hl' => k p l e R s m args below meth c D I A ρe Ye ρ H locs cells slots ls' Qm C F Wo Ag ⟨lv_less hl' (xL_set1 (v := (xR r q)) hi hp), (by rw [List.length_set]; exact hl.2)⟩ hb hE)
theorem V_astore {i : Nat} {r q : Nat} (hd : decode cc pc = .ok (.astore i, 2)) (hi : i < loc.length) (hp : ∀ x, loc[i - 1]? = some (some (xJ x)) → i = 0) (k : V own ini cc nL ret X d b (pc + 2) (loc.set i (some (xR r q))) st Y G N Q) : V own ini cc nL ret X d b pc loc ((xR r q) :: st) Y G N Q := by
  intro p l e R s m args below meth c D I A ρe Ye ρ H locs cells slots ls Qm C F Wo Ag hl hb hE
  exact lv_astore C.1 C.2.1 hd hl.1 (by rw [← hl.2]; exact hi) rfl (fun ls' hl' => k p l e R s m args below meth c D I A ρe Ye ρ H locs cells slots ls' Qm C F Wo Ag ⟨lv_less hl' (xL_set1 (v := (xR r q)) hi hp), (by rw [List.length_set]; exact hl.2)⟩ hb hE)
theorem V_iinc {i : Nat} {n : Int} {x v : Int32} (hd : decode cc pc = .ok (.iinc i n, 3)) (hx : loc[i]? = some (some (xI x))) (hv : x + Int32.ofInt n = v) (hp : ∀ x, loc[i - 1]? = some (some (xJ x)) → i = 0) (k : V own ini cc nL ret X d b (pc + 3) (loc.set i (some (xI v))) st Y G N Q) : V own ini cc nL ret X d b pc loc st Y G N Q := by
  intro p l e R s m args below meth c D I A ρe Ye ρ H locs cells slots ls Qm C F Wo Ag hl hb hE
  have hi : i < loc.length := (List.getElem?_eq_some_iff.mp hx).1
  obtain ⟨j, hj⟩ := List.getElem?_of_mem ((xL_mem (ρ := ρ) (i := 0)).mpr ⟨xI x, Nat.zero_le _, hx, rfl⟩)
  exact lv_iinc C.1 C.2.1 hd hl.1 hj hv (by rw [← hl.2]; exact hi) rfl (fun ls' hl' => k p l e R s m args below meth c D I A ρe Ye ρ H locs cells slots ls' Qm C F Wo Ag ⟨lv_less hl' (xL_set1 (v := xI v) hi hp), by rw [List.length_set]; exact hl.2⟩ hb hE)
theorem V_iadd {x y : Int32} (hd : decode cc pc = .ok (.iadd, 1)) (k : V own ini cc nL ret X d b (pc + 1) loc (xI (x + y) :: st) Y G N Q) : V own ini cc nL ret X d b pc loc (xI y :: xI x :: st) Y G N Q := by
  intro p l e R s m args below meth c D I A ρe Ye ρ H locs cells slots ls Qm C F Wo Ag hl hb hE
  exact lv_iadd C.1 C.2.1 hd (k p l e R s m args below meth c D I A ρe Ye ρ H locs cells slots ls Qm C F Wo Ag hl hb hE)
theorem V_isub {x y : Int32} (hd : decode cc pc = .ok (.isub, 1)) (k : V own ini cc nL ret X d b (pc + 1) loc (xI (x - y) :: st) Y G N Q) : V own ini cc nL ret X d b pc loc (xI y :: xI x :: st) Y G N Q := by
  intro p l e R s m args below meth c D I A ρe Ye ρ H locs cells slots ls Qm C F Wo Ag hl hb hE
  exact lv_isub C.1 C.2.1 hd (k p l e R s m args below meth c D I A ρe Ye ρ H locs cells slots ls Qm C F Wo Ag hl hb hE)
theorem V_imul {x y : Int32} (hd : decode cc pc = .ok (.imul, 1)) (k : V own ini cc nL ret X d b (pc + 1) loc (xI (x * y) :: st) Y G N Q) : V own ini cc nL ret X d b pc loc (xI y :: xI x :: st) Y G N Q := by
  intro p l e R s m args below meth c D I A ρe Ye ρ H locs cells slots ls Qm C F Wo Ag hl hb hE
  exact lv_imul C.1 C.2.1 hd (k p l e R s m args below meth c D I A ρe Ye ρ H locs cells slots ls Qm C F Wo Ag hl hb hE)
theorem V_iand {x y : Int32} (hd : decode cc pc = .ok (.iand, 1)) (k : V own ini cc nL ret X d b (pc + 1) loc (xI (x &&& y) :: st) Y G N Q) : V own ini cc nL ret X d b pc loc (xI y :: xI x :: st) Y G N Q := by
  intro p l e R s m args below meth c D I A ρe Ye ρ H locs cells slots ls Qm C F Wo Ag hl hb hE
  exact lv_iand C.1 C.2.1 hd (k p l e R s m args below meth c D I A ρe Ye ρ H locs cells slots ls Qm C F Wo Ag hl hb hE)
theorem V_ior {x y : Int32} (hd : decode cc pc = .ok (.ior, 1)) (k : V own ini cc nL ret X d b (pc + 1) loc (xI (x ||| y) :: st) Y G N Q) : V own ini cc nL ret X d b pc loc (xI y :: xI x :: st) Y G N Q := by
  intro p l e R s m args below meth c D I A ρe Ye ρ H locs cells slots ls Qm C F Wo Ag hl hb hE
  exact lv_ior C.1 C.2.1 hd (k p l e R s m args below meth c D I A ρe Ye ρ H locs cells slots ls Qm C F Wo Ag hl hb hE)
theorem V_ixor {x y : Int32} (hd : decode cc pc = .ok (.ixor, 1)) (k : V own ini cc nL ret X d b (pc + 1) loc (xI (x ^^^ y) :: st) Y G N Q) : V own ini cc nL ret X d b pc loc (xI y :: xI x :: st) Y G N Q := by
  intro p l e R s m args below meth c D I A ρe Ye ρ H locs cells slots ls Qm C F Wo Ag hl hb hE
  exact lv_ixor C.1 C.2.1 hd (k p l e R s m args below meth c D I A ρe Ye ρ H locs cells slots ls Qm C F Wo Ag hl hb hE)
theorem V_ishl {x y : Int32} (hd : decode cc pc = .ok (.ishl, 1)) (k : V own ini cc nL ret X d b (pc + 1) loc (xI (x <<< (y &&& 31)) :: st) Y G N Q) : V own ini cc nL ret X d b pc loc (xI y :: xI x :: st) Y G N Q := by
  intro p l e R s m args below meth c D I A ρe Ye ρ H locs cells slots ls Qm C F Wo Ag hl hb hE
  exact lv_ishl C.1 C.2.1 hd (k p l e R s m args below meth c D I A ρe Ye ρ H locs cells slots ls Qm C F Wo Ag hl hb hE)
theorem V_ishr {x y : Int32} (hd : decode cc pc = .ok (.ishr, 1)) (k : V own ini cc nL ret X d b (pc + 1) loc (xI (x >>> (y &&& 31)) :: st) Y G N Q) : V own ini cc nL ret X d b pc loc (xI y :: xI x :: st) Y G N Q := by
  intro p l e R s m args below meth c D I A ρe Ye ρ H locs cells slots ls Qm C F Wo Ag hl hb hE
  exact lv_ishr C.1 C.2.1 hd (k p l e R s m args below meth c D I A ρe Ye ρ H locs cells slots ls Qm C F Wo Ag hl hb hE)
theorem V_iushr {x y : Int32} (hd : decode cc pc = .ok (.iushr, 1)) (k : V own ini cc nL ret X d b (pc + 1) loc (xI ((x.toUInt32 >>> (y.toUInt32 &&& Int32.toUInt32 31)).toInt32) :: st) Y G N Q) : V own ini cc nL ret X d b pc loc (xI y :: xI x :: st) Y G N Q := by
  intro p l e R s m args below meth c D I A ρe Ye ρ H locs cells slots ls Qm C F Wo Ag hl hb hE
  exact lv_iushr C.1 C.2.1 hd rfl (k p l e R s m args below meth c D I A ρe Ye ρ H locs cells slots ls Qm C F Wo Ag hl hb hE)
theorem V_idiv {x y : Int32} (hd : decode cc pc = .ok (.idiv, 1)) (hne : ¬ y = 0) (k : V own ini cc nL ret X d b (pc + 1) loc (xI (x / y) :: st) Y G N Q) : V own ini cc nL ret X d b pc loc (xI y :: xI x :: st) Y G N Q := by
  intro p l e R s m args below meth c D I A ρe Ye ρ H locs cells slots ls Qm C F Wo Ag hl hb hE
  exact lv_idiv C.1 C.2.1 hd hne (k p l e R s m args below meth c D I A ρe Ye ρ H locs cells slots ls Qm C F Wo Ag hl hb hE)
theorem V_irem {x y : Int32} (hd : decode cc pc = .ok (.irem, 1)) (hne : ¬ y = 0) (k : V own ini cc nL ret X d b (pc + 1) loc (xI (x - x / y * y) :: st) Y G N Q) : V own ini cc nL ret X d b pc loc (xI y :: xI x :: st) Y G N Q := by
  intro p l e R s m args below meth c D I A ρe Ye ρ H locs cells slots ls Qm C F Wo Ag hl hb hE
  exact lv_irem C.1 C.2.1 hd hne (k p l e R s m args below meth c D I A ρe Ye ρ H locs cells slots ls Qm C F Wo Ag hl hb hE)
theorem V_ineg {x : Int32} (hd : decode cc pc = .ok (.ineg, 1)) (k : V own ini cc nL ret X d b (pc + 1) loc (xI (-x) :: st) Y G N Q) : V own ini cc nL ret X d b pc loc (xI x :: st) Y G N Q := by
  intro p l e R s m args below meth c D I A ρe Ye ρ H locs cells slots ls Qm C F Wo Ag hl hb hE
  exact lv_ineg C.1 C.2.1 hd (k p l e R s m args below meth c D I A ρe Ye ρ H locs cells slots ls Qm C F Wo Ag hl hb hE)
theorem V_ladd {x y : Int64} (hd : decode cc pc = .ok (.ladd, 1)) (k : V own ini cc nL ret X d b (pc + 1) loc (xJ (x + y) :: st) Y G N Q) : V own ini cc nL ret X d b pc loc (xJ y :: xJ x :: st) Y G N Q := by
  intro p l e R s m args below meth c D I A ρe Ye ρ H locs cells slots ls Qm C F Wo Ag hl hb hE
  exact lv_ladd C.1 C.2.1 hd (k p l e R s m args below meth c D I A ρe Ye ρ H locs cells slots ls Qm C F Wo Ag hl hb hE)
theorem V_lmul {x y : Int64} (hd : decode cc pc = .ok (.lmul, 1)) (k : V own ini cc nL ret X d b (pc + 1) loc (xJ (x * y) :: st) Y G N Q) : V own ini cc nL ret X d b pc loc (xJ y :: xJ x :: st) Y G N Q := by
  intro p l e R s m args below meth c D I A ρe Ye ρ H locs cells slots ls Qm C F Wo Ag hl hb hE
  exact lv_lmul C.1 C.2.1 hd (k p l e R s m args below meth c D I A ρe Ye ρ H locs cells slots ls Qm C F Wo Ag hl hb hE)
theorem V_ldiv {x y : Int64} (hd : decode cc pc = .ok (.ldiv, 1)) (hne : ¬ y = 0) (k : V own ini cc nL ret X d b (pc + 1) loc (xJ (x / y) :: st) Y G N Q) : V own ini cc nL ret X d b pc loc (xJ y :: xJ x :: st) Y G N Q := by
  intro p l e R s m args below meth c D I A ρe Ye ρ H locs cells slots ls Qm C F Wo Ag hl hb hE
  exact lv_ldiv C.1 C.2.1 hd hne (k p l e R s m args below meth c D I A ρe Ye ρ H locs cells slots ls Qm C F Wo Ag hl hb hE)
theorem V_lrem {x y : Int64} (hd : decode cc pc = .ok (.lrem, 1)) (hne : ¬ y = 0) (k : V own ini cc nL ret X d b (pc + 1) loc (xJ (x - x / y * y) :: st) Y G N Q) : V own ini cc nL ret X d b pc loc (xJ y :: xJ x :: st) Y G N Q := by
  intro p l e R s m args below meth c D I A ρe Ye ρ H locs cells slots ls Qm C F Wo Ag hl hb hE
  exact lv_lrem C.1 C.2.1 hd hne (k p l e R s m args below meth c D I A ρe Ye ρ H locs cells slots ls Qm C F Wo Ag hl hb hE)
theorem V_lcmp {x y : Int64} (hd : decode cc pc = .ok (.lcmp, 1)) (k : V own ini cc nL ret X d b (pc + 1) loc (xI (lg_cmp x y) :: st) Y G N Q) : V own ini cc nL ret X d b pc loc (xJ y :: xJ x :: st) Y G N Q := by
  intro p l e R s m args below meth c D I A ρe Ye ρ H locs cells slots ls Qm C F Wo Ag hl hb hE
  exact W.lcmp C.1 C.2.1 hd (k p l e R s m args below meth c D I A ρe Ye ρ H locs cells slots ls Qm C F Wo Ag hl hb hE)
theorem V_i2l {x : Int32} (hd : decode cc pc = .ok (.i2l, 1)) (k : V own ini cc nL ret X d b (pc + 1) loc (xJ x.toInt64 :: st) Y G N Q) : V own ini cc nL ret X d b pc loc (xI x :: st) Y G N Q := by
  intro p l e R s m args below meth c D I A ρe Ye ρ H locs cells slots ls Qm C F Wo Ag hl hb hE
  exact lv_i2l C.1 C.2.1 hd rfl (k p l e R s m args below meth c D I A ρe Ye ρ H locs cells slots ls Qm C F Wo Ag hl hb hE)
theorem V_l2i {x : Int64} (hd : decode cc pc = .ok (.l2i, 1)) (k : V own ini cc nL ret X d b (pc + 1) loc (xI x.toInt32 :: st) Y G N Q) : V own ini cc nL ret X d b pc loc (xJ x :: st) Y G N Q := by
  intro p l e R s m args below meth c D I A ρe Ye ρ H locs cells slots ls Qm C F Wo Ag hl hb hE
  exact lv_l2i C.1 C.2.1 hd rfl (k p l e R s m args below meth c D I A ρe Ye ρ H locs cells slots ls Qm C F Wo Ag hl hb hE)
theorem V_i2b {x : Int32} (hd : decode cc pc = .ok (.i2b, 1)) (k : V own ini cc nL ret X d b (pc + 1) loc (xI x.toInt8.toInt32 :: st) Y G N Q) : V own ini cc nL ret X d b pc loc (xI x :: st) Y G N Q := by
  intro p l e R s m args below meth c D I A ρe Ye ρ H locs cells slots ls Qm C F Wo Ag hl hb hE
  exact lv_i2b C.1 C.2.1 hd rfl (k p l e R s m args below meth c D I A ρe Ye ρ H locs cells slots ls Qm C F Wo Ag hl hb hE)
theorem V_i2s {x : Int32} (hd : decode cc pc = .ok (.i2s, 1)) (k : V own ini cc nL ret X d b (pc + 1) loc (xI x.toInt16.toInt32 :: st) Y G N Q) : V own ini cc nL ret X d b pc loc (xI x :: st) Y G N Q := by
  intro p l e R s m args below meth c D I A ρe Ye ρ H locs cells slots ls Qm C F Wo Ag hl hb hE
  exact lv_i2s C.1 C.2.1 hd rfl (k p l e R s m args below meth c D I A ρe Ye ρ H locs cells slots ls Qm C F Wo Ag hl hb hE)
theorem V_dup {x : Int32} (hd : decode cc pc = .ok (.dup, 1)) (k : V own ini cc nL ret X d b (pc + 1) loc (xI x :: xI x :: st) Y G N Q) : V own ini cc nL ret X d b pc loc (xI x :: st) Y G N Q := by
  intro p l e R s m args below meth c D I A ρe Ye ρ H locs cells slots ls Qm C F Wo Ag hl hb hE
  exact lv_dup C.1 C.2.1 hd rfl (k p l e R s m args below meth c D I A ρe Ye ρ H locs cells slots ls Qm C F Wo Ag hl hb hE)
theorem V_dupR {r c : Nat} (hd : decode cc pc = .ok (.dup, 1)) (k : V own ini cc nL ret X d b (pc + 1) loc (xR r c :: xR r c :: st) Y G N Q) : V own ini cc nL ret X d b pc loc (xR r c :: st) Y G N Q := by
  intro p l e R s m args below meth c D I A ρe Ye ρ H locs cells slots ls Qm C F Wo Ag hl hb hE
  exact lv_dup C.1 C.2.1 hd rfl (k p l e R s m args below meth c D I A ρe Ye ρ H locs cells slots ls Qm C F Wo Ag hl hb hE)
theorem V_dup2 {x : Int32} {r c : Nat} (hd : decode cc pc = .ok (.dup2, 1)) (k : V own ini cc nL ret X d b (pc + 1) loc (xI x :: xR r c :: xI x :: xR r c :: st) Y G N Q) : V own ini cc nL ret X d b pc loc (xI x :: xR r c :: st) Y G N Q := by
  intro p l e R s m args below meth c D I A ρe Ye ρ H locs cells slots ls Qm C F Wo Ag hl hb hE
  exact lv_dup2_11 C.1 C.2.1 hd rfl rfl (k p l e R s m args below meth c D I A ρe Ye ρ H locs cells slots ls Qm C F Wo Ag hl hb hE)
theorem V_ifeq {x : Int32} {off : Int} {tgt : Nat} (hd : decode cc pc = .ok (.ifCond .eq off, 3)) (ht : (pc : Int) + off = (tgt : Int)) (kt : x = 0 → V own ini cc nL ret X d b tgt loc st Y G N Q) (kf : ¬ x = 0 → V own ini cc nL ret X d b (pc + 3) loc st Y G N Q) : V own ini cc nL ret X d b pc loc (xI x :: st) Y G N Q := by
  intro p l e R s m args below meth c D I A ρe Ye ρ H locs cells slots ls Qm C F Wo Ag hl hb hE
  exact lv_if_eq C.1 C.2.1 hd ht (fun h => kt h p l e R s m args below meth c D I A ρe Ye ρ H locs cells slots ls Qm C F Wo Ag hl hb hE) (fun h => kf h p l e R s m args below meth c D I A ρe Ye ρ H locs cells slots ls Qm C F Wo Ag hl hb hE)
theorem V_iflt {x : Int32} {off : Int} {tgt : Nat} (hd : decode cc pc = .ok (.ifCond .lt off, 3)) (ht : (pc : Int) + off = (tgt : Int)) (kt : x < 0 → V own ini cc nL ret X d b tgt loc st Y G N Q) (kf : ¬ x < 0 → V own ini cc nL ret X d b (pc + 3) loc st Y G N Q) : V own ini cc nL ret X d b pc loc (xI x :: st) Y G N Q := by
  intro p l e R s m args below meth c D I A ρe Ye ρ H locs cells slots ls Qm C F Wo Ag hl hb hE
  exact lv_if_lt C.1 C.2.1 hd ht (fun h => kt h p l e R s m args below meth c D I A ρe Ye ρ H locs cells slots ls Qm C F Wo Ag hl hb hE) (fun h => kf h p l e R s m args below meth c D I A ρe Ye ρ H locs cells slots ls Qm C F Wo Ag hl hb hE)
theorem V_ifge {x : Int32} {off : Int} {tgt : Nat} (hd : decode cc pc = .ok (.ifCond .ge off, 3)) (ht : (pc : Int) + off = (tgt : Int)) (kt : 0 ≤ x → V own ini cc nL ret X d b tgt loc st Y G N Q) (kf : ¬ 0 ≤ x → V own ini cc nL ret X d b (pc + 3) loc st Y G N Q) : V own ini cc nL ret X d b pc loc (xI x :: st) Y G N Q := by
  intro p l e R s m args below meth c D I A ρe Ye ρ H locs cells slots ls Qm C F Wo Ag hl hb hE
  exact lv_if_ge C.1 C.2.1 hd ht (fun h => kt h p l e R s m args below meth c D I A ρe Ye ρ H locs cells slots ls Qm C F Wo Ag hl hb hE) (fun h => kf h p l e R s m args below meth c D I A ρe Ye ρ H locs cells slots ls Qm C F Wo Ag hl hb hE)
theorem V_ifgt {x : Int32} {off : Int} {tgt : Nat} (hd : decode cc pc = .ok (.ifCond .gt off, 3)) (ht : (pc : Int) + off = (tgt : Int)) (kt : 0 < x → V own ini cc nL ret X d b tgt loc st Y G N Q) (kf : ¬ 0 < x → V own ini cc nL ret X d b (pc + 3) loc st Y G N Q) : V own ini cc nL ret X d b pc loc (xI x :: st) Y G N Q := by
  intro p l e R s m args below meth c D I A ρe Ye ρ H locs cells slots ls Qm C F Wo Ag hl hb hE
  exact lv_if_gt C.1 C.2.1 hd ht (fun h => kt h p l e R s m args below meth c D I A ρe Ye ρ H locs cells slots ls Qm C F Wo Ag hl hb hE) (fun h => kf h p l e R s m args below meth c D I A ρe Ye ρ H locs cells slots ls Qm C F Wo Ag hl hb hE)
theorem V_ifle {x : Int32} {off : Int} {tgt : Nat} (hd : decode cc pc = .ok (.ifCond .le off, 3)) (ht : (pc : Int) + off = (tgt : Int)) (kt : x ≤ 0 → V own ini cc nL ret X d b tgt loc st Y G N Q) (kf : ¬ x ≤ 0 → V own ini cc nL ret X d b (pc + 3) loc st Y G N Q) : V own ini cc nL ret X d b pc loc (xI x :: st) Y G N Q := by
  intro p l e R s m args below meth c D I A ρe Ye ρ H locs cells slots ls Qm C F Wo Ag hl hb hE
  exact lv_if_le C.1 C.2.1 hd ht (fun h => kt h p l e R s m args below meth c D I A ρe Ye ρ H locs cells slots ls Qm C F Wo Ag hl hb hE) (fun h => kf h p l e R s m args below meth c D I A ρe Ye ρ H locs cells slots ls Qm C F Wo Ag hl hb hE)
theorem V_ifne {x : Int32} {off : Int} {tgt : Nat} (hd : decode cc pc = .ok (.ifCond .ne off, 3)) (ht : (pc : Int) + off = (tgt : Int)) (kt : ¬ x = 0 → V own ini cc nL ret X d b tgt loc st Y G N Q) (kf : x = 0 → V own ini cc nL ret X d b (pc + 3) loc st Y G N Q) : V own ini cc nL ret X d b pc loc (xI x :: st) Y G N Q := by
  intro p l e R s m args below meth c D I A ρe Ye ρ H locs cells slots ls Qm C F Wo Ag hl hb hE
  exact lv_if_ne C.1 C.2.1 hd ht (fun h => kt h p l e R s m args below meth c D I A ρe Ye ρ H locs cells slots ls Qm C F Wo Ag hl hb hE) (fun h => kf h p l e R s m args below meth c D I A ρe Ye ρ H locs cells slots ls Qm C F Wo Ag hl hb hE)
theorem V_icmpeq {x y : Int32} {off : Int} {tgt : Nat} (hd : decode cc pc = .ok (.if_icmp .eq off, 3)) (ht : (pc : Int) + off = (tgt : Int)) (kt : x = y → V own ini cc nL ret X d b tgt loc st Y G N Q) (kf : ¬ x = y → V own ini cc nL ret X d b (pc + 3) loc st Y G N Q) : V own ini cc nL ret X d b pc loc (xI y :: xI x :: st) Y G N Q := by
  intro p l e R s m args below meth c D I A ρe Ye ρ H locs cells slots ls Qm C F Wo Ag hl hb hE
  exact lv_icmp_eq C.1 C.2.1 hd ht (fun h => kt h p l e R s m args below meth c D I A ρe Ye ρ H locs cells slots ls Qm C F Wo Ag hl hb hE) (fun h => kf h p l e R s m args below meth c D I A ρe Ye ρ H locs cells slots ls Qm C F Wo Ag hl hb hE)
theorem V_icmplt {x y : Int32} {off : Int} {tgt : Nat} (hd : decode cc pc = .ok (.if_icmp .lt off, 3)) (ht : (pc : Int) + off = (tgt : Int)) (kt : x < y → V own ini cc nL ret X d b tgt loc st Y G N Q) (kf : ¬ x < y → V own ini cc nL ret X d b (pc + 3) loc st Y G N Q) : V own ini cc nL ret X d b pc loc (xI y :: xI x :: st) Y G N Q := by
  intro p l e R s m args below meth c D I A ρe Ye ρ H locs cells slots ls Qm C F Wo Ag hl hb hE
  exact lv_icmp_lt C.1 C.2.1 hd ht (fun h => kt h p l e R s m args below meth c D I A ρe Ye ρ H locs cells slots ls Qm C F Wo Ag hl hb hE) (fun h => kf h p l e R s m args below meth c D I A ρe Ye ρ H locs cells slots ls Qm C F Wo Ag hl hb hE)
theorem V_icmpge {x y : Int32} {off : Int} {tgt : Nat} (hd : decode cc pc = .ok (.if_icmp .ge off, 3)) (ht : (pc : Int) + off = (tgt : Int)) (kt : y ≤ x → V own ini cc nL ret X d b tgt loc st Y G N Q) (kf : ¬ y ≤ x → V own ini cc nL ret X d b (pc + 3) loc st Y G N Q) : V own ini cc nL ret X d b pc loc (xI y :: xI x :: st) Y G N Q := by
  intro p l e R s m args below meth c D I A ρe Ye ρ H locs cells slots ls Qm C F Wo Ag hl hb hE
  exact lv_icmp_ge C.1 C.2.1 hd ht (fun h => kt h p l e R s m args below meth c D I A ρe Ye ρ H locs cells slots ls Qm C F Wo Ag hl hb hE) (fun h => kf h p l e R s m args below meth c D I A ρe Ye ρ H locs cells slots ls Qm C F Wo Ag hl hb hE)
theorem V_icmpgt {x y : Int32} {off : Int} {tgt : Nat} (hd : decode cc pc = .ok (.if_icmp .gt off, 3)) (ht : (pc : Int) + off = (tgt : Int)) (kt : y < x → V own ini cc nL ret X d b tgt loc st Y G N Q) (kf : ¬ y < x → V own ini cc nL ret X d b (pc + 3) loc st Y G N Q) : V own ini cc nL ret X d b pc loc (xI y :: xI x :: st) Y G N Q := by
  intro p l e R s m args below meth c D I A ρe Ye ρ H locs cells slots ls Qm C F Wo Ag hl hb hE
  exact lv_icmp_gt C.1 C.2.1 hd ht (fun h => kt h p l e R s m args below meth c D I A ρe Ye ρ H locs cells slots ls Qm C F Wo Ag hl hb hE) (fun h => kf h p l e R s m args below meth c D I A ρe Ye ρ H locs cells slots ls Qm C F Wo Ag hl hb hE)
theorem V_icmple {x y : Int32} {off : Int} {tgt : Nat} (hd : decode cc pc = .ok (.if_icmp .le off, 3)) (ht : (pc : Int) + off = (tgt : Int)) (kt : x ≤ y → V own ini cc nL ret X d b tgt loc st Y G N Q) (kf : ¬ x ≤ y → V own ini cc nL ret X d b (pc + 3) loc st Y G N Q) : V own ini cc nL ret X d b pc loc (xI y :: xI x :: st) Y G N Q := by
  intro p l e R s m args below meth c D I A ρe Ye ρ H locs cells slots ls Qm C F Wo Ag hl hb hE
  exact lv_icmp_le C.1 C.2.1 hd ht (fun h => kt h p l e R s m args below meth c D I A ρe Ye ρ H locs cells slots ls Qm C F Wo Ag hl hb hE) (fun h => kf h p l e R s m args below meth c D I A ρe Ye ρ H locs cells slots ls Qm C F Wo Ag hl hb hE)
theorem V_icmpne {x y : Int32} {off : Int} {tgt : Nat} (hd : decode cc pc = .ok (.if_icmp .ne off, 3)) (ht : (pc : Int) + off = (tgt : Int)) (kt : ¬ x = y → V own ini cc nL ret X d b tgt loc st Y G N Q) (kf : x = y → V own ini cc nL ret X d b (pc + 3) loc st Y G N Q) : V own ini cc nL ret X d b pc loc (xI y :: xI x :: st) Y G N Q := by
  intro p l e R s m args below meth c D I A ρe Ye ρ H locs cells slots ls Qm C F Wo Ag hl hb hE
  exact lv_icmp_ne C.1 C.2.1 hd ht (fun h => kt h p l e R s m args below meth c D I A ρe Ye ρ H locs cells slots ls Qm C F Wo Ag hl hb hE) (fun h => kf h p l e R s m args below meth c D I A ρe Ye ρ H locs cells slots ls Qm C F Wo Ag hl hb hE)
theorem V_goto {off : Int} {tgt : Nat} (hd : decode cc pc = .ok (.goto off, 3)) (ht : (pc : Int) + off = (tgt : Int)) (k : V own ini cc nL ret X d b tgt loc st Y G N Q) : V own ini cc nL ret X d b pc loc st Y G N Q := by
  intro p l e R s m args below meth c D I A ρe Ye ρ H locs cells slots ls Qm C F Wo Ag hl hb hE
  exact lv_goto C.1 C.2.1 hd ht (k p l e R s m args below meth c D I A ρe Ye ρ H locs cells slots ls Qm C F Wo Ag hl hb hE)
theorem V_ifnonnull {r q : Nat} {off : Int} {tgt : Nat} (hd : decode cc pc = .ok (.ifnonnull off, 3)) (ht : (pc : Int) + off = (tgt : Int)) (k : V own ini cc nL ret X d b tgt loc st Y G N Q) : V own ini cc nL ret X d b pc loc (xR r q :: st) Y G N Q := by
  intro p l e R s m args below meth c D I A ρe Ye ρ H locs cells slots ls Qm C F Wo Ag hl hb hE
  exact lv_ifnonnull C.1 C.2.1 hd ht (k p l e R s m args below meth c D I A ρe Ye ρ H locs cells slots ls Qm C F Wo Ag hl hb hE)
theorem V_ifnonnullN {off : Int} (hd : decode cc pc = .ok (.ifnonnull off, 3)) (k : V own ini cc nL ret X d b (pc + 3) loc st Y G N Q) : V own ini cc nL ret X d b pc loc (xN :: st) Y G N Q := by
  intro p l e R s m args below meth c D I A ρe Ye ρ H locs cells slots ls Qm C F Wo Ag hl hb hE
  exact lv_ifnonnullN C.1 C.2.1 hd (k p l e R s m args below meth c D I A ρe Ye ρ H locs cells slots ls Qm C F Wo Ag hl hb hE)
theorem V_tableOut {dflt lo hi : Int} {offs : Array Int} {len : Nat} {x : Int32} {tgt : Nat} (hd : decode cc pc = .ok (.tableswitch dflt lo hi offs, len)) (h : x.toInt < lo ∨ hi < x.toInt) (ht : (pc : Int) + dflt = (tgt : Int)) (k : V own ini cc nL ret X d b tgt loc st Y G N Q) : V own ini cc nL ret X d b pc loc (xI x :: st) Y G N Q := by
  intro p l e R s m args below meth c D I A ρe Ye ρ H locs cells slots ls Qm C F Wo Ag hl hb hE
  exact lv_tableOut C.1 C.2.1 hd h ht (k p l e R s m args below meth c D I A ρe Ye ρ H locs cells slots ls Qm C F Wo Ag hl hb hE)
theorem V_tableIn {dflt lo hi : Int} {offs : Array Int} {len : Nat} {x : Int32} {off : Int} {tgt : Nat} (hd : decode cc pc = .ok (.tableswitch dflt lo hi offs, len)) (h1 : ¬ x.toInt < lo) (h2 : ¬ hi < x.toInt) (ho : offs[(x.toInt - lo).toNat]? = some off) (ht : (pc : Int) + off = (tgt : Int)) (k : V own ini cc nL ret X d b tgt loc st Y G N Q) : V own ini cc nL ret X d b pc loc (xI x :: st) Y G N Q := by
  intro p l e R s m args below meth c D I A ρe Ye ρ H locs cells slots ls Qm C F Wo Ag hl hb hE
  exact lv_tableIn C.1 C.2.1 hd h1 h2 ho ht (k p l e R s m args below meth c D I A ρe Ye ρ H locs cells slots ls Qm C F Wo Ag hl hb hE)
theorem V_lookup {dflt : Int} {ps : Array (Int × Int)} {len : Nat} {x : Int32} {off : Int} {tgt : Nat} (hd : decode cc pc = .ok (.lookupswitch dflt ps, len)) (hp : (ps.toList.zip (ps.toList.drop 1)).all (fun (a, next) => a.1 < next.1) = true) (ho : Op.lookupswitch.offset ps.toList dflt x.toInt = off) (ht : (pc : Int) + off = (tgt : Int)) (k : V own ini cc nL ret X d b tgt loc st Y G N Q) : V own ini cc nL ret X d b pc loc (xI x :: st) Y G N Q := by
  intro p l e R s m args below meth c D I A ρe Ye ρ H locs cells slots ls Qm C F Wo Ag hl hb hE
  exact lv_lookup C.1 C.2.1 hd hp ho ht (k p l e R s m args below meth c D I A ρe Ye ρ H locs cells slots ls Qm C F Wo Ag hl hb hE)
theorem V_ireturn {x : Int32} (hd : decode cc pc = .ok (.ireturn, 1)) (hok : xOk ret Y (some (xI x))) (k : Q (some (xI x)) Y G N) : V own ini cc nL ret X d b pc loc [xI x] Y G N Q := by
  intro p l e R s m args below meth c D I A ρe Ye ρ H locs cells slots ls Qm C F Wo Ag hl hb hE
  exact hE (some (xI x)) Y G N ρ H locs cells slots pc ls k hok Wo Ag ⟨Nat.le_trans (Nat.le_add_right _ _) hb.1, Nat.le_trans (Nat.le_add_right _ _) hb.2⟩ hd
theorem V_lreturn {x : Int64} (hd : decode cc pc = .ok (.lreturn, 1)) (hok : xOk ret Y (some (xJ x))) (k : Q (some (xJ x)) Y G N) : V own ini cc nL ret X d b pc loc [xJ x] Y G N Q := by
  intro p l e R s m args below meth c D I A ρe Ye ρ H locs cells slots ls Qm C F Wo Ag hl hb hE
  exact hE (some (xJ x)) Y G N ρ H locs cells slots pc ls k hok Wo Ag ⟨Nat.le_trans (Nat.le_add_right _ _) hb.1, Nat.le_trans (Nat.le_add_right _ _) hb.2⟩ hd
theorem V_areturn {q : Option (Nat × Nat)} (hd : decode cc pc = .ok (.areturn, 1)) (hok : xOk ret Y (some (.inr q))) (k : Q (some (.inr q)) Y G N) : V own ini cc nL ret X d b pc loc [.inr q] Y G N Q := by
  intro p l e R s m args below meth c D I A ρe Ye ρ H locs cells slots ls Qm C F Wo Ag hl hb hE
  exact hE (some (.inr q)) Y G N ρ H locs cells slots pc ls k hok Wo Ag ⟨Nat.le_trans (Nat.le_add_right _ _) hb.1, Nat.le_trans (Nat.le_add_right _ _) hb.2⟩ hd
theorem V_return  (hd : decode cc pc = .ok (.return_, 1)) (hok : xOk ret Y none) (k : Q none Y G N) : V own ini cc nL ret X d b pc loc [] Y G N Q := by
  intro p l e R s m args below meth c D I A ρe Ye ρ H locs cells slots ls Qm C F Wo Ag hl hb hE
  exact hE none Y G N ρ H locs cells slots pc ls k hok Wo Ag ⟨Nat.le_trans (Nat.le_add_right _ _) hb.1, Nat.le_trans (Nat.le_add_right _ _) hb.2⟩ hd
theorem V_iaload {r c n : Nat} {i : Int32} (hd : decode cc pc = .ok (.iaload, 1)) (hY : ((r, c), (1, n)) ∈ Y) (hin : vp_in i n) (k : V own ini cc nL ret X d b (pc + 1) loc (xI (N r c i.toNatClampNeg) :: st) Y G N Q) : V own ini cc nL ret X d b pc loc (xI i :: xR r c :: st) Y G N Q := by
  intro p l e R s m args below meth c D I A ρe Ye ρ H locs cells slots ls Qm C F Wo Ag hl hb hE
  obtain ⟨j, hj⟩ := List.getElem?_of_mem hY
  exact va_iald C.1 C.2.1 F.1 Wo.1 j 0 (xw_get hj) rfl hin hd (k p l e R s m args below meth c D I A ρe Ye ρ H locs cells slots ls Qm C F Wo Ag hl hb hE)
theorem V_zaload {r c n : Nat} {i : Int32} (hd : decode cc pc = .ok (.baload, 1)) (hY : ((r, c), (4, n)) ∈ Y) (hin : vp_in i n) (k : V own ini cc nL ret X d b (pc + 1) loc (xI (N r c i.toNatClampNeg) :: st) Y G N Q) : V own ini cc nL ret X d b pc loc (xI i :: xR r c :: st) Y G N Q := by
  intro p l e R s m args below meth c D I A ρe Ye ρ H locs cells slots ls Qm C F Wo Ag hl hb hE
  obtain ⟨j, hj⟩ := List.getElem?_of_mem hY
  exact va_zald C.1 C.2.1 F.1 Wo.1 j 1 (xw_get hj) rfl hin hd (k p l e R s m args below meth c D I A ρe Ye ρ H locs cells slots ls Qm C F Wo Ag hl hb hE)
theorem V_aaload {r c n a a' : Nat} {i : Int32} (hd : decode cc pc = .ok (.aaload, 1)) (hY : ((r, c), (2, n)) ∈ Y) (hin : vp_in i n) (hg : G r c i.toNatClampNeg = some (a, a')) (k : V own ini cc nL ret X d b (pc + 1) loc (xR a a' :: st) Y G N Q) : V own ini cc nL ret X d b pc loc (xI i :: xR r c :: st) Y G N Q := by
  intro p l e R s m args below meth c D I A ρe Ye ρ H locs cells slots ls Qm C F Wo Ag hl hb hE
  obtain ⟨j, hj⟩ := List.getElem?_of_mem hY
  refine va_aldq C.1 C.2.1 F.1 Wo.1 j 2 (xw_get hj) rfl hin hd ?_
  simp only [hg]
  exact k p l e R s m args below meth c D I A ρe Ye ρ H locs cells slots ls Qm C F Wo Ag hl hb hE
theorem V_alen {r c n : Nat} {v : Int32} (hd : decode cc pc = .ok (.arraylength, 1)) (hY : ((r, c), (1, n)) ∈ Y) (hv : Int32.ofNat n = v) (k : V own ini cc nL ret X d b (pc + 1) loc (xI v :: st) Y G N Q) : V own ini cc nL ret X d b pc loc (xR r c :: st) Y G N Q := by
  intro p l e R s m args below meth c D I A ρe Ye ρ H locs cells slots ls Qm C F Wo Ag hl hb hE
  obtain ⟨j, hj⟩ := List.getElem?_of_mem hY
  exact va_alen C.1 C.2.1 F.1 Wo.1 j 0 (xw_get hj) (ty := .int) rfl hv hd (k p l e R s m args below meth c D I A ρe Ye ρ H locs cells slots ls Qm C F Wo Ag hl hb hE)
end XR
end
section
theorem xw_copy_n : Cond.native arraycopyName ∈ xWd := xWd_in (by decide +kernel) (by decide +kernel)
theorem xw_copy_s : Cond.static arraycopyName ∈ xWd := xWd_in (by decide +kernel) (by decide +kernel)
theorem xw_copy_i : Cond.initialized "java/lang/System" ∈ xWd := xWd_in (by decide +kernel) (by decide +kernel)
theorem xcat_le (ρ : xP) : ∀ st : List xAV, ((st.map (xt ρ)).map fun v => v.category).sum ≤ 2 * st.length
  | [] => Nat.le_refl _
  | v :: st => by
    have h1 := xcat_le ρ st
    have h2 : (xt ρ v).category ≤ 2 := by rcases v with (v | v) | (_ | v) <;> simp [xt, Value.category]
    simp only [List.map_cons, List.sum_cons, List.length_cons]
    omega
/-! FIELDS, WRITES, STATICS, THE SCRIPT -/
/-- what the tables say of a field's use: the link of its place in a class's pool, its class's number and its own, whether it is a reference, whether it is final -/
def xFl (own : String) (idx ci k : Nat) (b fin : Bool) : Prop := ∃ (C : String) (T : u_T) (n : Nat) (ty : Nat → FieldType), vwCl[ci]? = some (C, T, n) ∧ k < n ∧ Cond.fieldLink own idx (T k).1 (T k).2.1 (T k).2.2.1 ∈ xWd ∧ (∀ w ∈ u_ws C T n, w ∈ xWd) ∧ (∀ j, j < n → parseFieldDescriptor (T j).2.2.1 = some (ty j)) ∧
  (∀ a, a < n → ∀ b, b < n → a ≠ b → (T a).2.1 ≠ (T b).2.1) ∧ (xF ci)[k]? = some b ∧ (T k).2.2.2 = fin ∧ (b = false → ty k = .int) ∧ (b = true → (∃ n, ty k = .object n) ∨ ∃ t, ty k = .array t) ∧ (fin = true → (T k).1 = own)
theorem xZe_N {Y : xY} {G : xG} {N : xM} {r c : Nat} {kd : Nat × Nat} (h : xZe Y G N) (hY : ((r, c), kd) ∈ Y) (f : Nat → Int32) : xZe Y G (xp N r c f) := by
  refine ⟨fun r' c' hn => ?_, h.2⟩
  have hne : ¬ (r' = r ∧ c' = c) := by
    rintro ⟨rfl, rfl⟩
    exact hn kd hY
  rw [xp_no _ _ hne]
  exact h.1 r' c' hn
theorem xZe_G {Y : xY} {G : xG} {N : xM} {r c k : Nat} {kd : Nat × Nat} (h : xZe Y G N) (hY : ((r, c), kd) ∈ Y) {q : Option (Nat × Nat)} (hq : ∀ a, q = some a → ∃ kd, (a, kd) ∈ Y) : xZe Y (xg G r c (va_up (G r c) k q)) N := by
  refine ⟨fun r' c' hn => ?_, fun r' c' k' a ha => ?_, h.2.2⟩
  · have hne : ¬ (r' = r ∧ c' = c) := by
      rintro ⟨rfl, rfl⟩
      exact hn kd hY
    rw [xg_no _ _ hne]
    exact h.1 r' c' hn
  · by_cases hne : r' = r ∧ c' = c
    · obtain ⟨rfl, rfl⟩ := hne
      rw [xg_eq] at ha
      by_cases hk : k' = k
      · subst hk
        rw [va_up_eq] at ha
        exact hq a ha
      · rw [va_up_no _ _ hk] at ha
        exact h.2.1 _ _ _ _ ha
    · rw [xg_no _ _ hne] at ha
      exact h.2.1 _ _ _ _ ha
theorem xw_N {I : xD} {ρ : xP} {Y : xY} {G : xG} {N : xM} {A : Nat → Prop} {i r c : Nat} {k : Nat × Nat} (hD : va_D A (xw I ρ Y G N)) (h : Y[i]? = some ((r, c), k)) (f : Nat → Int32) : (xw I ρ Y G N).set i (ρ r c, xcell I ρ G (xp N r c f) r c k) = xw I ρ Y G (xp N r c f) :=
  xw_set hD h (fun _ _ hne => (xp_no _ _ hne).symm) (fun _ _ _ => rfl)
theorem xw_G {I : xD} {ρ : xP} {Y : xY} {G : xG} {N : xM} {A : Nat → Prop} {i r c : Nat} {k : Nat × Nat} (hD : va_D A (xw I ρ Y G N)) (h : Y[i]? = some ((r, c), k)) (f : Nat → Option (Nat × Nat)) : (xw I ρ Y G N).set i (ρ r c, xcell I ρ (xg G r c f) N r c k) = xw I ρ Y (xg G r c f) N :=
  xw_set hD h (fun _ _ _ => rfl) (fun _ _ hne => (xg_no _ _ hne).symm)
theorem xt_q (ρ : xP) (q : Option (Nat × Nat)) : xt ρ (.inr q) = va_rf (xq ρ q) := by cases q <;> rfl
theorem x_fitsR {ty : FieldType} (h : (∃ n, ty = .object n) ∨ ∃ t, ty = .array t) (q : Option Nat) : narrow ty (va_rf q) = va_rf q ∧ fits ty (va_rf q) = true := by
  rcases h with ⟨n, rfl⟩ | ⟨t, rfl⟩ <;> cases q <;> exact ⟨rfl, rfl⟩
section XR
variable {own : String} {ini : Bool} {cc : ByteArray} {nL : Nat} {ret : Option FieldType} {X : Option (Nat × (Nat → Int32))} {d : Nat} {b : Nat × Nat} {pc : Nat} {loc : List (Option xAV)} {st : List xAV} {Y : xY} {G : xG} {N : xM} {Q : Option xAV → xY → xG → xM → Prop}
theorem V_getI {r c ci k0 idx : Nat} {fin : Bool} (hd : decode cc pc = .ok (.getfield idx, 3)) (hf : xFl own idx ci k0 false fin) (hY : ((r, c), (0, ci)) ∈ Y) (k : V own ini cc nL ret X d b (pc + 3) loc (xI (N r c k0) :: st) Y G N Q) : V own ini cc nL ret X d b pc loc (xR r c :: st) Y G N Q := by
  intro p l e R s m args below meth c0 D I A ρe Ye ρ H locs cells slots ls Qm C F Wo Ag hl hb hE
  obtain ⟨j, hj⟩ := List.getElem?_of_mem hY
  obtain ⟨Cn, T, n, ty, h1, h2, h3, h4, h5, h6, h7, -⟩ := hf
  exact va_get C.1 C.2.1 C.2.2.2.2.2.2.1 h4 C.2.2.2.2.2.1 F.1 Wo.1 j (xw_get hj) h1 k0 h2 (C.2.2.2.2.2.2.1 _ h3) (fun _ h => h) (xfs_I h7) hd (k p l e R s m args below meth c0 D I A ρe Ye ρ H locs cells slots ls Qm C F Wo Ag hl hb hE)
theorem V_getQ {r c ci k0 idx : Nat} {fin : Bool} (hd : decode cc pc = .ok (.getfield idx, 3)) (hf : xFl own idx ci k0 true fin) (hY : ((r, c), (0, ci)) ∈ Y) (k : V own ini cc nL ret X d b (pc + 3) loc (.inr (G r c k0) :: st) Y G N Q) : V own ini cc nL ret X d b pc loc (xR r c :: st) Y G N Q := by
  intro p l e R s m args below meth c0 D I A ρe Ye ρ H locs cells slots ls Qm C F Wo Ag hl hb hE
  obtain ⟨j, hj⟩ := List.getElem?_of_mem hY
  obtain ⟨Cn, T, n, ty, h1, h2, h3, h4, h5, h6, h7, -⟩ := hf
  refine va_get C.1 C.2.1 C.2.2.2.2.2.2.1 h4 C.2.2.2.2.2.1 F.1 Wo.1 j (xw_get hj) h1 k0 h2 (C.2.2.2.2.2.2.1 _ h3) (fun _ h => h) (xfs_R h7) hd ?_
  rw [← xt_q]
  exact k p l e R s m args below meth c0 D I A ρe Ye ρ H locs cells slots ls Qm C F Wo Ag hl hb hE
theorem V_getR {r c ci k0 idx a a' : Nat} {fin : Bool} (hd : decode cc pc = .ok (.getfield idx, 3)) (hf : xFl own idx ci k0 true fin) (hY : ((r, c), (0, ci)) ∈ Y) (hg : G r c k0 = some (a, a')) (k : V own ini cc nL ret X d b (pc + 3) loc (xR a a' :: st) Y G N Q) : V own ini cc nL ret X d b pc loc (xR r c :: st) Y G N Q := V_getQ hd hf hY (by rw [hg]; exact k)
theorem V_putI {r c ci k0 idx : Nat} {x : Int32} (hd : decode cc pc = .ok (.putfield idx, 3)) (hf : xFl own idx ci k0 false false) (hY : ((r, c), (0, ci)) ∈ Y) (k : V own ini cc nL ret X d b (pc + 3) loc st Y G (xp N r c (upd (N r c) k0 x)) Q) : V own ini cc nL ret X d b pc loc (xI x :: xR r c :: st) Y G N Q := by
  intro p l e R s m args below meth c0 D I A ρe Ye ρ H locs cells slots ls Qm C F Wo Ag hl hb hE
  obtain ⟨j, hj⟩ := List.getElem?_of_mem hY
  obtain ⟨Cn, T, n, ty, h1, h2, h3, h4, h5, h6, h7, h8, h9, -⟩ := hf
  have e9 : parseFieldDescriptor (T k0).2.2.1 = some .int := by rw [h5 k0 h2, h9 rfl]
  refine va_put (v := .int x) C.1 C.2.1 C.2.2.2.2.2.2.1 h4 ty h5 h6 C.2.2.2.2.2.1 F.1 Wo.1 Wo.2.1 Wo.2.2.1 j (xw_get hj) h1 k0 h2 (C.2.2.2.2.2.2.1 _ h3) (fun _ h => h) h8 e9 (vp_nar_int x) rfl (List.getElem?_eq_some_iff.mp (xfs_I h7)).1 hd (fun H1 locs1 hP hD hS => ?_)
  rw [xfs_setI h7] at hP hD
  have e8 := xw_N Wo.2.1 hj (upd (N r c) k0 x)
  exact k p l e R s m args below meth c0 D I A ρe Ye ρ H1 locs1 cells slots ls Qm C F ⟨e8 ▸ hP, e8 ▸ hD, hS, xZe_N Wo.2.2.2 hY _⟩ Ag hl hb hE
theorem V_putR {r c ci k0 idx : Nat} {q : Option (Nat × Nat)} (hd : decode cc pc = .ok (.putfield idx, 3)) (hf : xFl own idx ci k0 true false) (hY : ((r, c), (0, ci)) ∈ Y) (hq : ∀ a, q = some a → ∃ kd, (a, kd) ∈ Y) (k : V own ini cc nL ret X d b (pc + 3) loc st Y (xg G r c (va_up (G r c) k0 q)) N Q) : V own ini cc nL ret X d b pc loc (.inr q :: xR r c :: st) Y G N Q := by
  intro p l e R s m args below meth c0 D I A ρe Ye ρ H locs cells slots ls Qm C F Wo Ag hl hb hE
  obtain ⟨j, hj⟩ := List.getElem?_of_mem hY
  obtain ⟨Cn, T, n, ty, h1, h2, h3, h4, h5, h6, h7, h8, -, h10, h11⟩ := hf
  obtain ⟨e1, e2⟩ := x_fitsR (h10 rfl) (xq ρ q)
  show W p l e R s m args below meth c0 H locs cells slots Qm (F0 m pc ls (xt ρ (.inr q) :: .ref (ρ r c) :: st.map (xt ρ)))
  rw [xt_q]
  refine va_put (v := va_rf (xq ρ q)) C.1 C.2.1 C.2.2.2.2.2.2.1 h4 ty h5 h6 C.2.2.2.2.2.1 F.1 Wo.1 Wo.2.1 Wo.2.2.1 j (xw_get hj) h1 k0 h2 (C.2.2.2.2.2.2.1 _ h3) (fun _ h => h) h8 (h5 k0 h2) e1 e2 (List.getElem?_eq_some_iff.mp (xfs_R h7)).1 hd (fun H1 locs1 hP hD hS => ?_)
  rw [xfs_setR h7] at hP hD
  have e8 := xw_G Wo.2.1 hj (va_up (G r c) k0 q)
  exact k p l e R s m args below meth c0 D I A ρe Ye ρ H1 locs1 cells slots ls Qm C F ⟨e8 ▸ hP, e8 ▸ hD, hS, xZe_G Wo.2.2.2 hY hq⟩ Ag hl hb hE
theorem V_putRF {r c ci k0 idx : Nat} {q : Option (Nat × Nat)} (hd : decode cc pc = .ok (.putfield idx, 3)) (hf : xFl own idx ci k0 true true) (hY : ((r, c), (0, ci)) ∈ Y) (hi : ini = true) (hq : ∀ a, q = some a → ∃ kd, (a, kd) ∈ Y) (k : V own ini cc nL ret X d b (pc + 3) loc st Y (xg G r c (va_up (G r c) k0 q)) N Q) : V own ini cc nL ret X d b pc loc (.inr q :: xR r c :: st) Y G N Q := by
  intro p l e R s m args below meth c0 D I A ρe Ye ρ H locs cells slots ls Qm C F Wo Ag hl hb hE
  obtain ⟨j, hj⟩ := List.getElem?_of_mem hY
  obtain ⟨Cn, T, n, ty, h1, h2, h3, h4, h5, h6, h7, h8, -, h10, h11⟩ := hf
  obtain ⟨e1, e2⟩ := x_fitsR (h10 rfl) (xq ρ q)
  show W p l e R s m args below meth c0 H locs cells slots Qm (F0 m pc ls (xt ρ (.inr q) :: .ref (ρ r c) :: st.map (xt ρ)))
  rw [xt_q]
  refine va_putF (v := va_rf (xq ρ q)) C.1 C.2.1 C.2.2.2.2.2.2.1 h4 ty h5 h6 C.2.2.2.2.2.1 F.1 Wo.1 Wo.2.1 Wo.2.2.1 j (xw_get hj) h1 k0 h2 (C.2.2.2.2.2.2.1 _ h3) (fun _ h => h) h8 (C.2.2.2.2.2.2.2.2.2 hi) (h11 rfl) (h5 k0 h2) e1 e2 (List.getElem?_eq_some_iff.mp (xfs_R h7)).1 hd (fun H1 locs1 hP hD hS => ?_)
  rw [xfs_setR h7] at hP hD
  have e8 := xw_G Wo.2.1 hj (va_up (G r c) k0 q)
  exact k p l e R s m args below meth c0 D I A ρe Ye ρ H1 locs1 cells slots ls Qm C F ⟨e8 ▸ hP, e8 ▸ hD, hS, xZe_G Wo.2.2.2 hY hq⟩ Ag hl hb hE
theorem V_iastore {r c n : Nat} {i x : Int32} (hd : decode cc pc = .ok (.iastore, 1)) (hY : ((r, c), (1, n)) ∈ Y) (hin : vp_in i n) (k : V own ini cc nL ret X d b (pc + 1) loc st Y G (xp N r c (upd (N r c) i.toNatClampNeg x)) Q) : V own ini cc nL ret X d b pc loc (xI x :: xI i :: xR r c :: st) Y G N Q := by
  intro p l e R s m args below meth c0 D I A ρe Ye ρ H locs cells slots ls Qm C F Wo Ag hl hb hE
  obtain ⟨j, hj⟩ := List.getElem?_of_mem hY
  refine va_iast C.1 C.2.1 F.1 Wo.1 Wo.2.1 Wo.2.2.1 j 0 (xw_get hj) rfl hin hd (fun H1 locs1 hP hD hS => ?_)
  have e8 := xw_N Wo.2.1 hj (upd (N r c) i.toNatClampNeg x)
  have e7 : xcell I ρ G (xp N r c (upd (N r c) i.toNatClampNeg x)) r c (1, n) = .inl (I.1, n, .inl (upd (N r c) i.toNatClampNeg x)) := by simp only [xcell, xp_eq]
  rw [e7] at e8
  exact k p l e R s m args below meth c0 D I A ρe Ye ρ H1 locs1 cells slots ls Qm C F ⟨e8 ▸ hP, e8 ▸ hD, hS, xZe_N Wo.2.2.2 hY _⟩ Ag hl hb hE
theorem V_zastore {r c n : Nat} {i x : Int32} (hd : decode cc pc = .ok (.bastore, 1)) (hY : ((r, c), (4, n)) ∈ Y) (hin : vp_in i n) (hz : vp_nar .boolean x = x) (k : V own ini cc nL ret X d b (pc + 1) loc st Y G (xp N r c (upd (N r c) i.toNatClampNeg x)) Q) : V own ini cc nL ret X d b pc loc (xI x :: xI i :: xR r c :: st) Y G N Q := by
  intro p l e R s m args below meth c0 D I A ρe Ye ρ H locs cells slots ls Qm C F Wo Ag hl hb hE
  obtain ⟨j, hj⟩ := List.getElem?_of_mem hY
  refine va_zast C.1 C.2.1 F.1 Wo.1 Wo.2.1 Wo.2.2.1 j 1 (xw_get hj) rfl hin hd (fun H1 locs1 hP hD hS => ?_)
  rw [hz] at hP hD
  have e8 := xw_N Wo.2.1 hj (upd (N r c) i.toNatClampNeg x)
  have e7 : xcell I ρ G (xp N r c (upd (N r c) i.toNatClampNeg x)) r c (4, n) = .inl (I.2.1, n, .inl (upd (N r c) i.toNatClampNeg x)) := by simp only [xcell, xp_eq]
  rw [e7] at e8
  exact k p l e R s m args below meth c0 D I A ρe Ye ρ H1 locs1 cells slots ls Qm C F ⟨e8 ▸ hP, e8 ▸ hD, hS, xZe_N Wo.2.2.2 hY _⟩ Ag hl hb hE
theorem V_aastore {r c n a a' : Nat} {i : Int32} (hd : decode cc pc = .ok (.aastore, 1)) (hY : ((r, c), (2, n)) ∈ Y) (hin : vp_in i n) (hv : ((a, a'), (0, 5)) ∈ Y) (k : V own ini cc nL ret X d b (pc + 1) loc st Y (xg G r c (va_up (G r c) i.toNatClampNeg (some (a, a')))) N Q) : V own ini cc nL ret X d b pc loc (xR a a' :: xI i :: xR r c :: st) Y G N Q := by
  intro p l e R s m args below meth c0 D I A ρe Ye ρ H locs cells slots ls Qm C F Wo Ag hl hb hE
  obtain ⟨j, hj⟩ := List.getElem?_of_mem hY
  obtain ⟨j2, hj2⟩ := List.getElem?_of_mem hv
  refine va_astq C.1 C.2.1 F.1 Wo.1 Wo.2.1 Wo.2.2.1 j 2 j2 5 (r := (RX5, TX5, 15)) (xw_get hj) rfl (xw_get hj2) rfl hin hd (fun H1 locs1 hP hD hS => ?_)
  have e8 := xw_G Wo.2.1 hj (va_up (G r c) i.toNatClampNeg (some (a, a')))
  have e7 : xcell I ρ (xg G r c (va_up (G r c) i.toNatClampNeg (some (a, a')))) N r c (2, n) = .inl (I.2.2.1, n, .inr (.inr (.inr (.inr (va_up (fun i => xq ρ (G r c i)) i.toNatClampNeg (some (ρ a a'))))))) := by
    simp only [xcell, xg_eq]
    congr 7
    funext z
    by_cases hz : z = i.toNatClampNeg
    · subst hz; rw [va_up_eq, va_up_eq]; rfl
    · rw [va_up_no _ _ hz, va_up_no _ _ hz]
  rw [e7] at e8
  exact k p l e R s m args below meth c0 D I A ρe Ye ρ H1 locs1 cells slots ls Qm C F ⟨e8 ▸ hP, e8 ▸ hD, hS, xZe_G Wo.2.2.2 hY (fun q hq => ⟨_, by cases hq; exact hv⟩)⟩ Ag hl hb hE
theorem V_alenR {r c n : Nat} {v : Int32} (hd : decode cc pc = .ok (.arraylength, 1)) (hY : ((r, c), (2, n)) ∈ Y) (hv : Int32.ofNat n = v) (k : V own ini cc nL ret X d b (pc + 1) loc (xI v :: st) Y G N Q) : V own ini cc nL ret X d b pc loc (xR r c :: st) Y G N Q := by
  intro p l e R s m args below meth c0 D I A ρe Ye ρ H locs cells slots ls Qm C F Wo Ag hl hb hE
  obtain ⟨j, hj⟩ := List.getElem?_of_mem hY
  exact va_alen C.1 C.2.1 F.1 Wo.1 j 2 (xw_get hj) (ty := .object "MarbleRun$Track") rfl hv hd (k p l e R s m args below meth c0 D I A ρe Ye ρ H locs cells slots ls Qm C F Wo Ag hl hb hE)
theorem V_gaload {r c n a a' : Nat} {i : Int32} (hd : decode cc pc = .ok (.aaload, 1)) (hY : ((r, c), (3, n)) ∈ Y) (hin : vp_in i n) (hg : G r c i.toNatClampNeg = some (a, a')) (k : V own ini cc nL ret X d b (pc + 1) loc (xR a a' :: st) Y G N Q) : V own ini cc nL ret X d b pc loc (xI i :: xR r c :: st) Y G N Q := by
  intro p l e R s m args below meth c0 D I A ρe Ye ρ H locs cells slots ls Qm C F Wo Ag hl hb hE
  obtain ⟨j, hj⟩ := List.getElem?_of_mem hY
  have hlt : i.toNatClampNeg < n := Nat.not_le.mp fun q => hin (Or.inr q)
  refine W.aald (v := va_rf (xq ρ (G r c i.toNatClampNeg))) (ty := .array .int) C.1 C.2.1 (Wo.1 j _ (xw_get hj)) ((F.1.2 3 _ rfl).1 n (fun z => va_rf (xq ρ (G r c z)))) rfl (fun q => by cases q) (by show ¬ (i < 0 ∨ (arrV _ _ _).slots.size ≤ _); rw [arrV_size]; exact hin) (by show (arrV _ _ _).slots[_]? = _; rw [arrV_read _ _ hlt]) rfl rfl hd ?_
  rw [hg]
  exact k p l e R s m args below meth c0 D I A ρe Ye ρ H locs cells slots ls Qm C F Wo Ag hl hb hE
theorem V_acopy {r1 c1 n1 r2 c2 n2 idx : Nat} {sp dp n : Int32} (hd : decode cc pc = .ok (.invokestatic idx, 3)) (hw : Cond.methodLink own idx arraycopyName ∈ xWd) (h1 : ((r1, c1), (1, n1)) ∈ Y) (h2 : ((r2, c2), (1, n2)) ∈ Y) (hs : ¬ sp < 0) (hp : ¬ dp < 0) (hn : ¬ n < 0) (hsn : sp.toNatClampNeg + n.toNatClampNeg ≤ n1) (hpn : dp.toNatClampNeg + n.toNatClampNeg ≤ n2) (hst : st.length ≤ 4)
    (k : V own ini cc nL ret X (d + 1) b (pc + 3) loc st Y G (xp N r2 c2 (va_cpy (N r1 c1) (N r2 c2) sp.toNatClampNeg dp.toNatClampNeg n.toNatClampNeg)) Q) : V own ini cc nL ret X (d + 1) b pc loc (xI n :: xI dp :: xR r2 c2 :: xI sp :: xR r1 c1 :: st) Y G N Q := by
  intro p l e R s m args below meth c0 D I A ρe Ye ρ H locs cells slots ls Qm C F Wo Ag hl hb hE
  obtain ⟨j1, hj1⟩ := List.getElem?_of_mem h1
  obtain ⟨j2, hj2⟩ := List.getElem?_of_mem h2
  have hfr : d + 1 ≤ R.frames := C.2.2.2.2.2.2.2.1
  have hlo : 64 * (d + 1) ≤ R.locals := C.2.2.2.2.2.2.2.2.1
  have hts := C.2.2.2.2.2.2.1
  refine va_copyi (ty := .int) C.1 C.2.1 (C.2.2.2.2.1.trans hl.1.1.symm) C.2.2.2.2.2.1 (hts _ hw) (hts _ xw_copy_n) (hts _ xw_copy_s) (hts _ xw_copy_i) F.1 Wo.1 Wo.2.1 Wo.2.2.1 j1 j2 0 0 (xw_get hj1) (xw_get hj2) rfl rfl rfl hs hp hn hsn hpn (fun _ _ => rfl) (by omega) ?_ hd (fun H1 locs1 hP hD hS => ?_)
  · have e1 := xcat_le ρ st
    have e2 : nativeFrameWords "java/lang/System" "arraycopy" 5 = 7 := by decide +kernel
    rw [e2]
    omega
  · have e8 := xw_N Wo.2.1 hj2 (va_cpy (N r1 c1) (N r2 c2) sp.toNatClampNeg dp.toNatClampNeg n.toNatClampNeg)
    have e7 : xcell I ρ G (xp N r2 c2 (va_cpy (N r1 c1) (N r2 c2) sp.toNatClampNeg dp.toNatClampNeg n.toNatClampNeg)) r2 c2 (1, n2) = .inl (I.1, n2, .inl (va_cpy (N r1 c1) (N r2 c2) sp.toNatClampNeg dp.toNatClampNeg n.toNatClampNeg)) := by simp only [xcell, xp_eq]
    rw [e7] at e8
    exact k p l e R s m args below meth c0 D I A ρe Ye ρ H1 locs1 cells slots ls Qm C F ⟨e8 ▸ hP, e8 ▸ hD, hS, xZe_N Wo.2.2.2 h2 _⟩ Ag hl hb hE
theorem V_getP {idx : Nat} (hd : decode cc pc = .ok (.getstatic idx, 3)) (hw : Cond.fieldLink own idx "MarbleRun$Asker" "PARENTS" "[I" ∈ xWd) (k : V own ini cc nL ret X d b (pc + 3) loc (xR 1000001 0 :: st) Y G N Q) : V own ini cc nL ret X d b pc loc st Y G N Q := by
  intro p l e R s m args below meth c0 D I A ρe Ye ρ H locs cells slots ls Qm C F Wo Ag hl hb hE
  refine va_gets C.1 C.2.1 F.2.2.2.2.2.1 Wo.2.2.1 C.2.2.2.2.2.1 (C.2.2.2.2.2.2.1 _ hw) (fun _ h => h) hd ?_
  rw [← Ag.2 1000001 0 (by decide)]
  exact k p l e R s m args below meth c0 D I A ρe Ye ρ H locs cells slots ls Qm C F Wo Ag hl hb hE
theorem V_plen (hd : decode cc pc = .ok (.arraylength, 1)) (k : V own ini cc nL ret X d b (pc + 1) loc (xI 6 :: st) Y G N Q) : V own ini cc nL ret X d b pc loc (xR 1000001 0 :: st) Y G N Q := by
  intro p l e R s m args below meth c0 D I A ρe Ye ρ H locs cells slots ls Qm C F Wo Ag hl hb hE
  show W p l e R s m args below meth c0 H locs cells slots Qm (F0 m pc ls (.ref (ρ 1000001 0) :: st.map (xt ρ)))
  rw [Ag.2 1000001 0 (by decide)]
  obtain ⟨cell, g1, g2, g3, g4, g5, g6, g7⟩ := F.2.2.2.2.2.2.1
  exact W.alen (n := 6) C.1 C.2.1 (by rw [Wo.2.2.1.2.1 _ (Array.getElem?_eq_some_iff.mp g1).1 g7]; exact g1) g2 g5 rfl rfl hd (k p l e R s m args below meth c0 D I A ρe Ye ρ H locs cells slots ls Qm C F Wo Ag hl hb hE)
theorem V_pload {i : Int32} (hd : decode cc pc = .ok (.iaload, 1)) (hin : vp_in i 6) (k : V own ini cc nL ret X d b (pc + 1) loc (xI (xPar i.toNatClampNeg) :: st) Y G N Q) : V own ini cc nL ret X d b pc loc (xI i :: xR 1000001 0 :: st) Y G N Q := by
  intro p l e R s m args below meth c0 D I A ρe Ye ρ H locs cells slots ls Qm C F Wo Ag hl hb hE
  show W p l e R s m args below meth c0 H locs cells slots Qm (F0 m pc ls (.int i :: .ref (ρ 1000001 0) :: st.map (xt ρ)))
  rw [Ag.2 1000001 0 (by decide)]
  exact va_ti C.1 C.2.1 F.2.2.2.2.2.2.1 Wo.2.2.1 hin rfl hd (k p l e R s m args below meth c0 D I A ρe Ye ρ H locs cells slots ls Qm C F Wo Ag hl hb hE)
theorem V_slen {L : Nat} {xs : Nat → Int32} (hX : X = some (L, xs)) (hd : decode cc pc = .ok (.arraylength, 1)) (k : V own ini cc nL ret X d b (pc + 1) loc (xI (Int32.ofNat L) :: st) Y G N Q) : V own ini cc nL ret X d b pc loc (xR 1000000 0 :: st) Y G N Q := by
  intro p l e R s m args below meth c0 D I A ρe Ye ρ H locs cells slots ls Qm C F Wo Ag hl hb hE
  obtain ⟨g1, g2, g3⟩ := F.2.2.2.2.2.2.2 L xs hX
  show W p l e R s m args below meth c0 H locs cells slots Qm (F0 m pc ls (.ref (ρ 1000000 0) :: st.map (xt ρ)))
  rw [Ag.2 1000000 0 (by decide)]
  exact va_slen C.1 C.2.1 g1 g2 g3 Wo.2.2.1 hd (k p l e R s m args below meth c0 D I A ρe Ye ρ H locs cells slots ls Qm C F Wo Ag hl hb hE)
theorem V_sld {L : Nat} {xs : Nat → Int32} {i : Int32} (hX : X = some (L, xs)) (hd : decode cc pc = .ok (.iaload, 1)) (hin : vp_in i L) (k : V own ini cc nL ret X d b (pc + 1) loc (xI (xs i.toNatClampNeg) :: st) Y G N Q) : V own ini cc nL ret X d b pc loc (xI i :: xR 1000000 0 :: st) Y G N Q := by
  intro p l e R s m args below meth c0 D I A ρe Ye ρ H locs cells slots ls Qm C F Wo Ag hl hb hE
  obtain ⟨g1, g2, g3⟩ := F.2.2.2.2.2.2.2 L xs hX
  show W p l e R s m args below meth c0 H locs cells slots Qm (F0 m pc ls (.int i :: .ref (ρ 1000000 0) :: st.map (xt ρ)))
  rw [Ag.2 1000000 0 (by decide)]
  exact va_sld C.1 C.2.1 g1 g2 g3 Wo.2.2.1 hin hd (k p l e R s m args below meth c0 D I A ρe Ye ρ H locs cells slots ls Qm C F Wo Ag hl hb hE)
end XR
end
section
/-! CALLS -/
theorem xfree {A : Nat → Prop} {H0 H : Heap} {locs : List Loc} {ws : va_W} (hD : va_D A ws) (hS : va_S A H0 H locs) (hA : ∀ q, H0.size ≤ q → A q) : ∀ q, va_A ws H.size q → A q := by
  rintro q (⟨k, e, h⟩ | h)
  · exact hD.2 k _ h
  · exact hA q (Nat.le_trans hS.1 h)
theorem xGood {ws : List Cond} (h : ∀ w ∈ ws, w ∈ xWd) : GoodIn xWd ws := fun w hw => xWd_good w (h w hw)
theorem xE_len {ρ : xP} : ∀ as : List xAV, (lg_sl (as.map (xt ρ))).length = (xE as).length
  | [] => rfl
  | .inl (.inr v) :: as => by
    have ih := xE_len (ρ := ρ) as
    unfold lg_sl at ih ⊢
    rw [List.map_cons, List.flatMap_cons, List.length_append, ih, xE]
    simp [xt, Value.category]
    omega
  | .inl (.inl v) :: as => by
    have ih := xE_len (ρ := ρ) as
    unfold lg_sl at ih ⊢
    rw [List.map_cons, List.flatMap_cons, List.length_append, ih]
    simp [xt, Value.category, xE]
    omega
  | .inr v :: as => by
    have ih := xE_len (ρ := ρ) as
    unfold lg_sl at ih ⊢
    rw [List.map_cons, List.flatMap_cons, List.length_append, ih]
    rcases v with _ | v <;> simp [xt, Value.category, xE] <;> omega
theorem xFx_go {I : xD} {D : va_G} {A B : Nat → Prop} {ρe ρ : xP} {X : Option (Nat × (Nat → Int32))} {s U : State} {locs : List Loc} (F : xFx I D A ρe X s) (hal : s.vm.Alike U.vm) (hn : ∀ w ∈ xNest, va_Nw w s → va_Nw w U) (hS : va_S A s.heap U.heap locs) (hAB : ∀ q, B q → A q) (hB : ∀ q, U.heap.size ≤ q → B q) (hρ : ρ 1000001 0 = ρe 1000001 0) : xFx I D B ρ none U := by
  obtain ⟨f1, f2, f3, f4, f5, f6, f7, f8⟩ := F
  refine ⟨f1.moved hal, f2.moved hal, xAOA_moved hal f3, fun w hw => hn w hw (f4 w hw), hB, ?_, ?_, fun L xs h => by cases h⟩
  · rw [hρ]
    exact ((f6.moved hal).kept (fun a h1 h2 => hS.2.1 a h1 h2)).narrow hAB
  · rw [hρ]
    exact ((f7.moved hal).kept (fun a h1 h2 => hS.2.1 a h1 h2)).narrow hAB
theorem xNest_warm {s U : State} (hW : s.WarmedH U.vm) : ∀ w ∈ xNest, va_Nw w s → va_Nw w U := by
  intro w hw h
  have h1 := (List.mem_filter.mp hw).2
  cases w <;> first | exact va_Nw.warmM hW h | cases h1
theorem xNest_same {s U : State} (hv : s.vm = U.vm) : ∀ w ∈ xNest, va_Nw w s → va_Nw w U := by
  intro w hw h
  have h1 := (List.mem_filter.mp hw).2
  cases w <;> first | exact va_Nw.same rfl hv h | cases h1
def xPre (I : xD) (D : va_G) (ρ : xP) (Y : xY) (G : xG) (N : xM) (sz : Nat) (U : State) : Prop :=
  U.heap.size = sz ∧ xFx I D (va_A (xw I ρ Y G N) sz) ρ none U ∧ va_P D vwCl (xw I ρ Y G N) U.heap ∧ va_D (fun _ => True) (xw I ρ Y G N) ∧ xZe Y G N
def xPost (I : xD) (D : va_G) (ρ : xP) (Y : xY) (A : Nat → Prop) (ret : Option FieldType) (Q : Option xAV → xY → xG → xM → Prop) : Array Value → State → Outcome → State → Prop := fun _ st oc t =>
  (∃ (r : Option xAV) (Y' : xY) (G' : xG) (N' : xM) (ρ' : xP), oc = .returned (r.map (xt ρ')) ∧ Q r Y' G' N' ∧ xOk ret Y' r ∧ va_P D vwCl (xw I ρ' Y' G' N') t.heap ∧ va_D A (xw I ρ' Y' G' N') ∧ xZe Y' G' N' ∧ xAg Y ρ Y' ρ') ∧ va_F A st t
theorem xPre_blind {I : xD} {D : va_G} {ρ : xP} {Y : xY} {G : xG} {N : xM} {sz : Nat} {vs : List Value} : FrameBlind (va_Pc vs (xPre I D ρ Y G N sz)) := by
  rintro a U g mk ⟨h0, h1, h2, h3, h4, h5⟩
  refine ⟨h0, h1, ?_, h3, h4, h5⟩
  exact xFx_go (U := U.calling g mk a) (locs := []) h2 (Vm.Alike.refl U.vm) (xNest_same rfl) va_S.rf (fun _ h => h) (fun q hq => h2.2.2.2.2.1 q hq) rfl
set_option maxHeartbeats 1000000 in
theorem xMet {l : Launch} {y : MethodName} {ini : Bool} {cc : ByteArray} {nL : Nat} {ret : Option FieldType} {d : Nat} {b : Nat × Nat} {as : List xAV} {Y : xY} {G : xG} {N : xM} {Q : Option xAV → xY → xG → xM → Prop} (hy : plainName y.cls = true) (hlen : (xE as).length ≤ nL) (hini : ini = true → y.name = "<init>")
    (hV : V y.cls ini cc nL ret none d b 0 (xE as ++ List.replicate (nL - (xE as).length) none) [] Y G N Q) (I : xD) (D : va_G) (ρ : xP) (sz : Nat) :
    Met l y (Cond.code y cc nL ret :: xWd) { frames := d, cells := b.1, slots := b.2, locals := 64 * d } (va_Pc (as.map (xt ρ)) (xPre I D ρ Y G N sz)) (xPost I D ρ Y (va_A (xw I ρ Y G N) sz) ret Q) b.1 b.2 (va_A (xw I ρ Y G N) sz) := by
  refine Met.ofW (cc := cc) (maxL := nL) (ret := ret) hy rfl ?_
  intro p e s m args below meth c s₁ B hml hv
  obtain ⟨rfl, hsz, hF, hP, hD, hZ⟩ := hv
  have hts := atoms_spec (ws := Cond.code y cc nL ret :: xWd) B.pre
  have hl := lv_entry (as.map (xt ρ)) (n := nL) (by rw [xE_len]; exact hlen)
  have hlocks := B.notSynchronized
  rw [lg_entry_eq]
  refine hV p l e _ s m _ below meth c D I (va_A (xw I ρ Y G N) sz) ρ Y ρ s.heap [] 0 0 _ _ ⟨B.exec, B.bytes, B.returns, B.notSynchronized, hml, findClass_of_methodNamed B.named, fun w hw => hts w (List.mem_cons_of_mem _ hw), Nat.le_refl _, Nat.le_refl _, fun h => (name_of_methodNamed B.named B.method).1.trans (hini h)⟩ hF ⟨hP, hD.self, va_S.rf, hZ⟩ ⟨fun q k h => ⟨rfl, h⟩, fun _ _ _ => rfl⟩ ⟨lv_less hl (fun q hq => xE_in as 0 hq), ?_⟩ ⟨Nat.le_of_eq (Nat.zero_add _), Nat.le_of_eq (Nat.zero_add _)⟩ ?_
  · rw [List.length_append, List.length_replicate]
    omega
  intro r Y' G' N' ρ' H' locs' cells' slots' pc' ls' hQ hok hWo hAg hcs hd
  refine W.widen (k := b.1) (n := b.2) hcs.1 hcs.2 ?_
  have hq : ∀ t : State, t.heap = H' → xPost I D ρ Y (va_A (xw I ρ Y G N) sz) ret Q (as.map (xt ρ)).toArray s (.returned (r.map (xt ρ'))) t := by
    intro t ht
    refine ⟨⟨r, Y', G', N', ρ', rfl, hQ, hok, by rw [ht]; exact hWo.1, hWo.2.1, hWo.2.2.2, hAg⟩, hWo.2.2.1.F ht⟩
  rcases r with _ | ((v | v) | q)
  · exact W.vret B.exec B.bytes (B.returns.trans hok) (fun t ht _ => hq t ht) hWo.2.2.1.2.2 hd hlocks
  · obtain ⟨ty, h1, h2⟩ := hok
    exact W.zret B.exec B.bytes (B.returns.trans h1) h2 (fun t ht _ => hq t ht) hWo.2.2.1.2.2 hd hlocks
  · exact W.lret B.exec B.bytes (B.returns.trans hok) (fun t ht _ => hq t ht) hWo.2.2.1.2.2 hd hlocks
  · obtain ⟨⟨rt, h1, h2⟩, -⟩ := hok
    refine W.aret (v := xt ρ' (.inr q)) B.exec B.bytes (B.returns.trans h1) h2 ?_ (fun t ht _ => hq t ht) hWo.2.2.1.2.2 hd hlocks
    rcases q with _ | q
    · exact Or.inl rfl
    · exact Or.inr ⟨_, rfl⟩
theorem xRet {p : Program} {l : Launch} {e : Env} {R : Room} {s : State} {m : MethodId} {args : Array Value} {below : List Frame} {meth : Method} {c : Code} {H : Heap} {locs : List Loc} {cells slots : Nat} {Qm : State → Prop} {pc : Nat} {ls : Array Slot} {rest st0 : List Value} {a : Array Value} {mc ms : Nat}
    {I : xD} {D : va_G} {A A1 : Nat → Prop} {ρ : xP} {Y : xY} {G : xG} {N : xM} {yret : Option FieldType} {KQ : Option xAV → xY → xG → xM → Prop}
    (hr : va_Run p l e R s m args below meth c H locs cells slots mc ms (F0 m pc ls st0) rest (xPost I D ρ Y A1 yret KQ a) A1) (Wo : xWo I D A s.heap H locs ρ Y G N) (hA1 : ∀ q, A1 q → A q)
    (kk : ∀ (r : Option xAV) (Y' : xY) (G' : xG) (N' : xM) (ρ' : xP) (H1 : Heap) (locs1 : List Loc), KQ r Y' G' N' → xOk yret Y' r → xWo I D A s.heap H1 locs1 ρ' Y' G' N' → xAg Y ρ Y' ρ' → W p l e R s m args below meth c H1 locs1 (cells + mc) (slots + ms) Qm (F0 m (pc + 3) ls (r.toList.map (xt ρ') ++ rest))) : W p l e R s m args below meth c H locs cells slots Qm (F0 m pc ls st0) := by
  intro T hT Xs
  obtain ⟨v, st₀, t, T', L, h0, X', hL, e1, e2, ⟨⟨r, Y', G', N', ρ', hv, hQ, hok, hP, hD, hZ, hAg⟩, hz, hk⟩, st⟩ := hr T hT Xs
  cases hv
  rw [h0] at hz hk
  have hS := Wo.2.2.1
  have hS' : va_S A s.heap T'.heap (locs ++ L) := ⟨Nat.le_trans hS.1 (by rw [e1]; exact hz), fun q h1 h2 => by rw [e1, hk q (Nat.lt_of_lt_of_le h1 hS.1) (fun z => h2 (hA1 q z))]; exact hS.2.1 q h1 h2, fun q hq => by
      rcases List.mem_append.mp hq with h | h
      · exact hS.2.2 q h
      · exact hA1 _ (hL q h)⟩
  obtain ⟨t2, a1, b1⟩ := kk r Y' G' N' ρ' T'.heap (locs ++ L) hQ hok ⟨by rw [e1]; exact hP, hD.weaken (fun _ _ _ h => hA1 _ h), hS', hZ⟩ hAg T' rfl X'
  refine ⟨t2, st t2 ?_, b1⟩
  have e9 : (r.map (xt ρ')).toList = r.toList.map (xt ρ') := by cases r <;> rfl
  rw [e9]
  exact a1
/-- what the tables say of a method -/
def xMd (y : MethodName) (cc : ByteArray) (nL : Nat) (ret : Option FieldType) (n : Nat) : Prop := plainName y.cls = true ∧ Cond.code y cc nL ret ∈ xWd ∧ Cond.initialized y.cls ∈ xWd ∧ (y.cls ≠ "java/lang/invoke/MethodHandle" ∧ y.cls ≠ "java/lang/invoke/VarHandle" ∧ (parseMethodDescriptor y.desc).map (fun d => d.parameters.length) = some n) ∧ nL ≤ 45
theorem xAg_trans {Ye Y Y' : xY} {ρe ρ ρ' : xP} (h1 : xAg Ye ρe Y ρ) (h2 : xAg Y ρ Y' ρ') : xAg Ye ρe Y' ρ' := ⟨fun q k h => ⟨((h2.1 q k (h1.1 q k h).2).1).trans (h1.1 q k h).1, (h2.1 q k (h1.1 q k h).2).2⟩, fun r c h => (h2.2 r c h).trans (h1.2 r c h)⟩
theorem xWo_rho {I : xD} {D : va_G} {A : Nat → Prop} {H0 H : Heap} {locs : List Loc} {ρ ρ' : xP} {Y : xY} {G : xG} {N : xM} (h : xWo I D A H0 H locs ρ' Y G N) (hAg : xAg Y ρ Y ρ') : xWo I D A H0 H locs ρ Y G N := by
  have e : xw I ρ' Y G N = xw I ρ Y G N := xw_rho (fun q k hq => (hAg.1 q k hq).1) h.2.2.2.2.1
  exact ⟨e ▸ h.1, e ▸ h.2.1, h.2.2.1, h.2.2.2⟩
theorem xt_rho {ρ ρ' : xP} {Y Y' : xY} {ret : Option FieldType} (hAg : xAg Y ρ Y' ρ') (hY : Y' = Y) {r : Option xAV} (hok : xOk ret Y' r) : r.toList.map (xt ρ') = r.toList.map (xt ρ) := by
  subst hY
  rcases r with _ | ((v | v) | (_ | q))
  · rfl
  · rfl
  · rfl
  · rfl
  · obtain ⟨-, h⟩ := hok
    obtain ⟨kd, hk⟩ := h q rfl
    show [Value.ref (ρ' q.1 q.2)] = [Value.ref (ρ q.1 q.2)]
    rw [(hAg.1 q kd hk).1]
section XR
variable {own : String} {ini : Bool} {cc : ByteArray} {nL : Nat} {ret : Option FieldType} {X : Option (Nat × (Nat → Int32))} {d : Nat} {b : Nat × Nat} {pc : Nat} {loc : List (Option xAV)} {st : List xAV} {Y : xY} {G : xG} {N : xM} {Q : Option xAV → xY → xG → xM → Prop}
  {y : MethodName} {ycc : ByteArray} {ynL : Nat} {yret : Option FieldType} {as : List xAV}
/-- what is common to all calls that make nothing -/
theorem xBack {p : Program} {l : Launch} {e : Env} {R : Room} {s : State} {m : MethodId} {args : Array Value} {below : List Frame} {meth : Method} {c : Code} {D : va_G} {I : xD} {A : Nat → Prop} {ρe : xP} {Ye : xY} {ρ : xP} {H : Heap} {locs : List Loc} {cells slots : Nat} {ls : Array Slot} {Qm : State → Prop} {a : Array Value} {st0 : List Value}
    (C : xCx own ini cc nL ret (d + 1) p R s m args meth c) (F : xFx I D A ρe X s) (Wo : xWo I D A s.heap H locs ρ Y G N) (Ag : xAg Ye ρe Y ρ) (hl : lv_has ls nL (xL ρ 0 loc) ∧ loc.length = nL) (hb : cells + b.1 ≤ R.cells ∧ slots + b.2 ≤ R.slots)
    (hE : ∀ (r : Option xAV) (Y' : xY) (G' : xG) (N' : xM) (ρ' : xP) (H' : Heap) (locs' : List Loc) (cells' slots' pc' : Nat) (ls' : Array Slot), Q r Y' G' N' → xOk ret Y' r → xWo I D A s.heap H' locs' ρ' Y' G' N' → xAg Ye ρe Y' ρ' → cells' ≤ R.cells ∧ slots' ≤ R.slots → decode cc pc' = .ok (xRi r, 1) → W p l e R s m args below meth c H' locs' cells' slots' Qm (F0 m pc' ls' (r.toList.map (xt ρ'))))
    (hr : va_Run p l e R s m args below meth c H locs cells slots 0 0 (F0 m pc ls st0) (st.map (xt ρ)) (xPost I D ρ Y (va_A (xw I ρ Y G N) H.size) yret (fun rv Y' G' N' => Y' = Y ∧ V own ini cc nL ret X (d + 1) b (pc + 3) loc (rv.toList ++ st) Y G' N' Q) a) (va_A (xw I ρ Y G N) H.size)) : W p l e R s m args below meth c H locs cells slots Qm (F0 m pc ls st0) := by
  refine xRet hr Wo (xfree Wo.2.1 Wo.2.2.1 F.2.2.2.2.1) ?_
  rintro r Y' G' N' ρ' H1 locs1 ⟨rfl, hV⟩ hok Wo' Ag'
  rw [xt_rho Ag' rfl hok, ← List.map_append]
  exact hV p l e R s m args below meth c D I A ρe Ye ρ H1 locs1 _ _ ls Qm C F (xWo_rho Wo' Ag') Ag hl hb hE
theorem V_iv {r c ci n idx : Nat} {T : u_T} (hd : decode cc pc = .ok (.invokevirtual idx, 3)) (hw : Cond.methodLink own idx y ∈ xWd) (hm : xMd y ycc ynL yret as.length) (hi : Cond.instanceMethod y ∈ xWd ∧ Cond.selects y.cls y y ∈ xWd) (hcl : vwCl[ci]? = some (y.cls, T, n)) (hY : ((r, c), (0, ci)) ∈ Y) (hst : st.length ≤ 4) (hlen : (xE (xR r c :: as)).length ≤ ynL)
    (hV : V y.cls false ycc ynL yret none d (0, 0) 0 (xE (xR r c :: as) ++ List.replicate (ynL - (xE (xR r c :: as)).length) none) [] Y G N (fun rv Y' G' N' => Y' = Y ∧ V own ini cc nL ret X (d + 1) b (pc + 3) loc (rv.toList ++ st) Y G' N' Q)) :
    V own ini cc nL ret X (d + 1) b pc loc (as.reverse ++ xR r c :: st) Y G N Q := by
  intro p l e R s m args below meth c0 D I A ρe Ye ρ H locs cells slots ls Qm C F Wo Ag hl hb hE
  obtain ⟨j, hj⟩ := List.getElem?_of_mem hY
  have hfr : d + 1 ≤ R.frames := C.2.2.2.2.2.2.2.1
  have hlo : 64 * (d + 1) ≤ R.locals := C.2.2.2.2.2.2.2.2.1
  have hts := C.2.2.2.2.2.2.1
  have hM := xMet (l := l) hm.1 hlen (fun h => by cases h) hV I D ρ H.size
  have e1 := xcat_le ρ st
  refine xBack C F Wo Ag hl hb hE (va_runV (Ts := xWd) (As := as.map (xt ρ)) (b := ρ r c) ⟨C.1, C.2.1, C.2.2.2.2.1, C.2.2.2.2.2.1, hts⟩ hM (cwV (ws' := xWd) as.length hts (xGood ?_) rfl rfl rfl ⟨rfl, hm.2.2.2.1⟩ ⟨?_, ?_⟩) ⟨xPre_blind, va_recv F.1 Wo.1 hcl (xw_get hj), fun U hU hW => ⟨rfl, by rw [hU], ?_, by rw [hU]; exact Wo.1, Wo.2.1.weaken (fun _ _ _ _ => trivial), Wo.2.2.2⟩⟩ rfl (List.length_map _) hl.1.1 ?_ ?_ hd ⟨Nat.le_trans (Nat.le_add_right _ _) hb.1, Nat.le_trans (Nat.le_add_right _ _) hb.2⟩)
  · intro w hw'
    simp only [wsV, List.mem_append, List.mem_cons, List.not_mem_nil, or_false] at hw'
    rcases hw' with (rfl | rfl | rfl | rfl) | rfl | h
    · exact hw
    · exact hi.1
    · exact hi.2
    · exact hm.2.2.1
    · exact hm.2.1
    · exact h
  · exact hfr
  · have := hm.2.2.2.2
    show 8 + (ynL + 11) + 64 * d ≤ R.locals
    omega
  · exact xFx_go (locs := locs) F hW.alike (xNest_warm hW) (by rw [hU]; exact Wo.2.2.1) (xfree Wo.2.1 Wo.2.2.1 F.2.2.2.2.1) (fun q hq => Or.inr (by rw [hU] at hq; exact hq)) (Ag.2 _ _ (by decide))
  · show (as.reverse ++ xR r c :: st).map (xt ρ) = _
    rw [List.map_append, List.map_reverse]
    rfl
  · show 2 * 0 + _ ≤ 8
    omega
end XR
end
section
/-! STATIC CALLS, CONSTRUCTORS, NEW -/
theorem xw_oi : Cond.instanceMethod objectInit ∈ xWd := xWd_in (by decide +kernel) (by decide +kernel)
theorem xw_oc : Cond.code objectInit ⟨#[0xb1]⟩ 1 none ∈ xWd := xWd_in (by decide +kernel) (by decide +kernel)
theorem xw_ai : Cond.arrayClass .int ∈ xWd := xWd_in (by decide +kernel) (by decide +kernel)
theorem xw_az : Cond.arrayClass .boolean ∈ xWd := xWd_in (by decide +kernel) (by decide +kernel)
section XR
variable {own : String} {ini : Bool} {cc : ByteArray} {nL : Nat} {ret : Option FieldType} {X : Option (Nat × (Nat → Int32))} {d : Nat} {b : Nat × Nat} {pc : Nat} {loc : List (Option xAV)} {st : List xAV} {Y : xY} {G : xG} {N : xM} {Q : Option xAV → xY → xG → xM → Prop}
  {y : MethodName} {ycc : ByteArray} {ynL : Nat} {yret : Option FieldType} {as : List xAV}
theorem V_is {idx : Nat} (hd : decode cc pc = .ok (.invokestatic idx, 3)) (hw : Cond.methodLink own idx y ∈ xWd) (hm : xMd y ycc ynL yret as.length) (hi : Cond.static y ∈ xWd) (hst : st.length ≤ 4) (hlen : (xE as).length ≤ ynL)
    (hV : V y.cls false ycc ynL yret none d (0, 0) 0 (xE as ++ List.replicate (ynL - (xE as).length) none) [] Y G N (fun rv Y' G' N' => Y' = Y ∧ V own ini cc nL ret X (d + 1) b (pc + 3) loc (rv.toList ++ st) Y G' N' Q)) :
    V own ini cc nL ret X (d + 1) b pc loc (as.reverse ++ st) Y G N Q := by
  intro p l e R s m args below meth c0 D I A ρe Ye ρ H locs cells slots ls Qm C F Wo Ag hl hb hE
  have hfr : d + 1 ≤ R.frames := C.2.2.2.2.2.2.2.1
  have hlo : 64 * (d + 1) ≤ R.locals := C.2.2.2.2.2.2.2.2.1
  have hts := C.2.2.2.2.2.2.1
  have hM := xMet (l := l) hm.1 hlen (fun h => by cases h) hV I D ρ H.size
  have e1 := xcat_le ρ st
  refine xBack C F Wo Ag hl hb hE (va_runS (Ts := xWd) (As := as.map (xt ρ)) ⟨C.1, C.2.1, C.2.2.2.2.1, C.2.2.2.2.2.1, hts⟩ hM (va_cwS (ws' := xWd) as.length hts (xGood ?_) rfl rfl rfl hm.2.2.2.1 ⟨?_, ?_⟩) ⟨xPre_blind, fun U hU hW => ⟨rfl, by rw [hU], ?_, by rw [hU]; exact Wo.1, Wo.2.1.weaken (fun _ _ _ _ => trivial), Wo.2.2.2⟩⟩ rfl (List.length_map _) hl.1.1 ?_ ?_ hd ⟨Nat.le_trans (Nat.le_add_right _ _) hb.1, Nat.le_trans (Nat.le_add_right _ _) hb.2⟩)
  · intro w hw'
    simp only [va_wsS, List.mem_append, List.mem_cons, List.not_mem_nil, or_false] at hw'
    rcases hw' with (rfl | rfl | rfl) | rfl | h
    · exact hw
    · exact hi
    · exact hm.2.2.1
    · exact hm.2.1
    · exact h
  · exact hfr
  · have := hm.2.2.2.2
    show 8 + (ynL + 11) + 64 * d ≤ R.locals
    omega
  · exact xFx_go (locs := locs) F hW.alike (xNest_warm hW) (by rw [hU]; exact Wo.2.2.1) (xfree Wo.2.1 Wo.2.2.1 F.2.2.2.2.1) (fun q hq => Or.inr (by rw [hU] at hq; exact hq)) (Ag.2 _ _ (by decide))
  · show (as.reverse ++ st).map (xt ρ) = _
    rw [List.map_append, List.map_reverse]
  · show 2 * 0 + _ ≤ 8
    omega
theorem V_isN {idx : Nat} {host : String} (hd : decode cc pc = .ok (.invokestatic idx, 3)) (hw : Cond.methodLinkNest own idx y host ∈ xNest) (hm : xMd y ycc ynL yret as.length) (hi : Cond.static y ∈ xWd) (hst : st.length ≤ 4) (hlen : (xE as).length ≤ ynL)
    (hV : V y.cls false ycc ynL yret none d (0, 0) 0 (xE as ++ List.replicate (ynL - (xE as).length) none) [] Y G N (fun rv Y' G' N' => Y' = Y ∧ V own ini cc nL ret X (d + 1) b (pc + 3) loc (rv.toList ++ st) Y G' N' Q)) :
    V own ini cc nL ret X (d + 1) b pc loc (as.reverse ++ st) Y G N Q := by
  intro p l e R s m args below meth c0 D I A ρe Ye ρ H locs cells slots ls Qm C F Wo Ag hl hb hE
  have hfr : d + 1 ≤ R.frames := C.2.2.2.2.2.2.2.1
  have hlo : 64 * (d + 1) ≤ R.locals := C.2.2.2.2.2.2.2.2.1
  have hts := C.2.2.2.2.2.2.1
  have hM := xMet (l := l) hm.1 hlen (fun h => by cases h) hV I D ρ H.size
  have e1 := xcat_le ρ st
  refine xBack C F Wo Ag hl hb hE (va_runSN (Ts := xWd) (host := host) (As := as.map (xt ρ)) ⟨C.1, C.2.1, C.2.2.2.2.1, C.2.2.2.2.2.1, hts⟩ hM ⟨va_cnB (ws' := xWd) as.length hts (xGood ?_) rfl rfl rfl (F.2.2.2.1 _ hw) (hts _ hm.2.2.1) hm.2.2.2.1 ⟨?_, ?_⟩, hts _ hi, trivial⟩ ⟨xPre_blind, fun U hU hW => ⟨rfl, by rw [hU], ?_, by rw [hU]; exact Wo.1, Wo.2.1.weaken (fun _ _ _ _ => trivial), Wo.2.2.2⟩⟩ rfl (List.length_map _) hl.1.1 ?_ ?_ hd ⟨Nat.le_trans (Nat.le_add_right _ _) hb.1, Nat.le_trans (Nat.le_add_right _ _) hb.2⟩)
  · intro w hw'
    rcases List.mem_cons.mp hw' with rfl | h
    · exact hm.2.1
    · exact h
  · exact hfr
  · have := hm.2.2.2.2
    show 8 + (ynL + 11) + 64 * d ≤ R.locals
    omega
  · exact xFx_go (locs := locs) F hW.alike (xNest_warm hW) (by rw [hU]; exact Wo.2.2.1) (xfree Wo.2.1 Wo.2.2.1 F.2.2.2.2.1) (fun q hq => Or.inr (by rw [hU] at hq; exact hq)) (Ag.2 _ _ (by decide))
  · show (as.reverse ++ st).map (xt ρ) = _
    rw [List.map_append, List.map_reverse]
  · show 2 * 0 + _ ≤ 8
    omega
/-- references that are there -/
def xVl (Y : xY) : xAV → Prop
  | .inr (some q) => (∃ k, (q, k) ∈ Y) ∨ 1000000 ≤ q.1
  | _ => True
theorem xt_vl {Y Y' : xY} {ρ ρ' : xP} (hAg : xAg Y ρ Y' ρ') {v : xAV} (h : xVl Y v) : xt ρ' v = xt ρ v := by
  rcases v with (v | v) | (_ | q)
  · rfl
  · rfl
  · rfl
  · show Value.ref (ρ' q.1 q.2) = Value.ref (ρ q.1 q.2)
    rcases h with ⟨k, h⟩ | h
    · rw [(hAg.1 q k h).1]
    · rw [hAg.2 _ _ h]
theorem xL_vl {Y Y' : xY} {ρ ρ' : xP} (hAg : xAg Y ρ Y' ρ') : ∀ (loc : List (Option xAV)) (i : Nat), (∀ v, some v ∈ loc → xVl Y v) → xL ρ' i loc = xL ρ i loc
  | [], _, _ => rfl
  | none :: l, i, h => by rw [xL, xL]; exact xL_vl hAg l (i + 1) (fun v hv => h v (List.mem_cons_of_mem _ hv))
  | some v :: l, i, h => by rw [xL, xL, xt_vl hAg (h v List.mem_cons_self), xL_vl hAg l (i + 1) (fun v hv => h v (List.mem_cons_of_mem _ hv))]
theorem xst_vl {Y Y' : xY} {ρ ρ' : xP} (hAg : xAg Y ρ Y' ρ') {st : List xAV} (h : ∀ v ∈ st, xVl Y v) : st.map (xt ρ') = st.map (xt ρ) := List.map_congr_left (fun v hv => xt_vl hAg (h v hv))
def xVs (Y : xY) (loc : List (Option xAV)) (st : List xAV) : Prop := (∀ v, some v ∈ loc → xVl Y v) ∧ ∀ v ∈ st, xVl Y v
/-- a constructor's call, of a class's own pool or of a nest mate's -/
theorem V_in {b1 : Nat × Nat} {r c idx : Nat} (hd : decode cc pc = .ok (.invokespecial idx, 3)) (hw : Cond.methodLink own idx y ∈ xWd ∨ ∃ host, Cond.methodLinkNest own idx y host ∈ xNest) (hm : xMd y ycc ynL none as.length) (hi : Cond.instanceMethod y ∈ xWd ∧ y.name = "<init>") (hst : st.length ≤ 4) (hlen : (xE (xR r c :: as)).length ≤ ynL) (hvs : xVs Y loc st)
    (hV : V y.cls true ycc ynL none none d b1 0 (xE (xR r c :: as) ++ List.replicate (ynL - (xE (xR r c :: as)).length) none) [] Y G N (fun _ Y' G' N' => V own ini cc nL ret X (d + 1) b (pc + 3) loc st Y' G' N' Q)) :
    V own ini cc nL ret X (d + 1) (b1.1 + b.1, b1.2 + b.2) pc loc (as.reverse ++ xR r c :: st) Y G N Q := by
  intro p l e R s m args below meth c0 D I A ρe Ye ρ H locs cells slots ls Qm C F Wo Ag hl hb hE
  have hfr : d + 1 ≤ R.frames := C.2.2.2.2.2.2.2.1
  have hlo : 64 * (d + 1) ≤ R.locals := C.2.2.2.2.2.2.2.2.1
  have hts := C.2.2.2.2.2.2.1
  have hM := xMet (l := l) hm.1 hlen (fun _ => hi.2) hV I D ρ H.size
  have e1 := xcat_le ρ st
  have hbc : cells + (b1.1 + b.1) ≤ R.cells := hb.1
  have hbs : slots + (b1.2 + b.2) ≤ R.slots := hb.2
  have hy1 : ∀ w ∈ (Cond.code y ycc ynL none :: xWd), w ∈ xWd := by
    intro w hw'
    rcases List.mem_cons.mp hw' with rfl | h
    · exact hm.2.1
    · exact h
  have hnl := hm.2.2.2.2
  have hpre : PreS s H (va_Pc ((xR r c :: as).map (xt ρ)) (xPre I D ρ Y G N H.size)) (.ref (ρ r c) :: as.map (xt ρ)) := ⟨xPre_blind, fun U hU hW => ⟨rfl, by rw [hU], xFx_go (locs := locs) F hW.alike (xNest_warm hW) (by rw [hU]; exact Wo.2.2.1) (xfree Wo.2.1 Wo.2.2.1 F.2.2.2.2.1) (fun q hq => Or.inr (by rw [hU] at hq; exact hq)) (Ag.2 _ _ (by decide)), by rw [hU]; exact Wo.1, Wo.2.1.weaken (fun _ _ _ _ => trivial), Wo.2.2.2⟩⟩
  have hst2 : (as.reverse ++ xR r c :: st).map (xt ρ) = (as.map (xt ρ)).reverse ++ .ref (ρ r c) :: st.map (xt ρ) := by
    rw [List.map_append, List.map_reverse]
    rfl
  have hsum : 2 * (F0 m pc ls ((as.reverse ++ xR r c :: st).map (xt ρ))).monitorRoom + ((st.map (xt ρ)).map fun v => v.category).sum ≤ 8 := by
    show 2 * 0 + _ ≤ 8
    omega
  have hrl : 8 + (ynL + 11) + 64 * d ≤ R.locals := by omega
  have hr : va_Run p l e R s m args below meth c0 H locs cells slots b1.1 b1.2 (F0 m pc ls ((as.reverse ++ xR r c :: st).map (xt ρ))) (st.map (xt ρ)) (xPost I D ρ Y (va_A (xw I ρ Y G N) H.size) none (fun _ Y' G' N' => V own ini cc nL ret X (d + 1) b (pc + 3) loc st Y' G' N' Q) (Value.ref (ρ r c) :: as.map (xt ρ)).toArray) (va_A (xw I ρ Y G N) H.size) := by
    rcases hw with hw | ⟨host, hw⟩
    · exact va_runI (Ts := xWd) (As := as.map (xt ρ)) (b := ρ r c) ⟨C.1, C.2.1, C.2.2.2.2.1, C.2.2.2.2.2.1, hts⟩ hM (cwI (ws' := xWd) as.length hts (xGood hy1) rfl rfl rfl (hts _ hm.2.2.1) (hts _ hw) (hts _ hi.1) hi.2 hm.2.2.2.1 ⟨hfr, hrl⟩) hpre rfl (List.length_map _) hl.1.1 hst2 hsum hd ⟨by omega, by omega⟩
    · exact va_runIN (Ts := xWd) (host := host) (As := as.map (xt ρ)) (b := ρ r c) ⟨C.1, C.2.1, C.2.2.2.2.1, C.2.2.2.2.2.1, hts⟩ hM ⟨va_cnB (ws' := xWd) as.length hts (xGood hy1) rfl rfl rfl (F.2.2.2.1 _ hw) (hts _ hm.2.2.1) hm.2.2.2.1 ⟨hfr, hrl⟩, hi.2, hts _ hi.1⟩ hpre rfl (List.length_map _) hl.1.1 hst2 hsum hd ⟨by omega, by omega⟩
  refine xRet hr Wo (xfree Wo.2.1 Wo.2.2.1 F.2.2.2.2.1) ?_
  intro rv Y' G' N' ρ' H1 locs1 hV' hok Wo' Ag'
  have hn : rv = none := by
    rcases rv with _ | ((v | v) | q)
    · rfl
    · obtain ⟨ty, h, -⟩ := hok; cases h
    · cases hok
    · obtain ⟨⟨ty, h, -⟩, -⟩ := hok; cases h
  subst hn
  show W p l e R s m args below meth c0 H1 locs1 (cells + b1.1) (slots + b1.2) Qm (F0 m (pc + 3) ls (st.map (xt ρ)))
  rw [← xst_vl Ag' hvs.2]
  exact hV' p l e R s m args below meth c0 D I A ρe Ye ρ' H1 locs1 _ _ ls Qm C F Wo' (xAg_trans Ag Ag') ⟨by rw [xL_vl Ag' loc 0 hvs.1]; exact hl.1, hl.2⟩ ⟨by omega, by omega⟩ hE
theorem V_oinit {r c idx : Nat} (hd : decode cc pc = .ok (.invokespecial idx, 3)) (hw : Cond.methodLink own idx objectInit ∈ xWd) (hst : st.length ≤ 4) (k : V own ini cc nL ret X (d + 1) b (pc + 3) loc st Y G N Q) : V own ini cc nL ret X (d + 1) b pc loc (xR r c :: st) Y G N Q := by
  intro p l e R s m args below meth c0 D I A ρe Ye ρ H locs cells slots ls Qm C F Wo Ag hl hb hE
  have hfr : d + 1 ≤ R.frames := C.2.2.2.2.2.2.2.1
  have hlo : 64 * (d + 1) ≤ R.locals := C.2.2.2.2.2.2.2.2.1
  have hts := C.2.2.2.2.2.2.1
  have e1 := xcat_le ρ st
  refine W.objInit C.1 C.2.1 C.2.2.2.2.2.1 (hts _ hw) (hts _ xw_oi) (hts _ xw_oc) rfl (hl.1.1.trans C.2.2.2.2.1.symm) rfl hd (by omega) (by show 2 * 0 + _ + 12 ≤ _; omega) ?_
  exact k p l e R s m args below meth c0 D I A ρe Ye ρ H locs cells slots ls Qm C F Wo Ag hl hb hE
def xUp (ρ : xP) (r c q : Nat) : xP := fun r' c' => if r' = r ∧ c' = c then q else ρ r' c'
theorem xUp_ag {Y : xY} {ρ : xP} {r c q : Nat} {k : Nat × Nat} (hf : ∀ k, ((r, c), k) ∉ Y) (hr : r < 1000000) : xAg Y ρ (Y ++ [((r, c), k)]) (xUp ρ r c q) := by
  refine ⟨fun a k' h => ⟨?_, List.mem_append_left _ h⟩, fun r' c' h => ?_⟩
  · unfold xUp
    rw [if_neg]
    rintro ⟨h1, h2⟩
    obtain ⟨a1, a2⟩ := a
    cases h1; cases h2
    exact hf k' h
  · unfold xUp
    rw [if_neg]
    rintro ⟨h1, -⟩
    omega
theorem xUp_w {I : xD} {Y : xY} {G : xG} {N : xM} {ρ : xP} {r c q : Nat} {k : Nat × Nat} (hf : ∀ k, ((r, c), k) ∉ Y) (hr : r < 1000000) (hz : xZe Y G N) : xw I (xUp ρ r c q) (Y ++ [((r, c), k)]) G N = xw I ρ Y G N ++ [(q, xcell I ρ G N r c k)] := by
  have hq : ∀ a b i, xq (xUp ρ r c q) (G a b i) = xq ρ (G a b i) := by
    intro a b i
    unfold xq
    cases hg : G a b i with
    | none => rfl
    | some z =>
      obtain ⟨kd, hk⟩ := hz.2.1 a b i z hg
      simp only [Option.map_some]
      rw [((xUp_ag (k := k) (q := q) hf hr).1 z kd hk).1]
  have hc : xcell I (xUp ρ r c q) G N r c k = xcell I ρ G N r c k := by
    rcases k with ⟨_ | _ | _ | _ | k, n⟩ <;> simp [xcell, xfs, hq]
  rw [xw_app, xw_rho (ρ := ρ) (fun a k' h => ((xUp_ag (k := k) (q := q) hf hr).1 a k' h).1) hz.2.1]
  congr 1
  show [(xUp ρ r c q r c, xcell I (xUp ρ r c q) G N r c k)] = _
  rw [hc]
  unfold xUp
  rw [if_pos ⟨rfl, rfl⟩]
theorem xUp_z {Y : xY} {G : xG} {N : xM} {r c : Nat} {k : Nat × Nat} (hr : r < 1000000) (hz : xZe Y G N) : xZe (Y ++ [((r, c), k)]) G N := by
  refine ⟨fun r' c' h => hz.1 r' c' (fun k' hk => h k' (List.mem_append_left _ hk)), fun a b i q h => ?_, fun q k' h => ?_⟩
  · obtain ⟨kd, hk⟩ := hz.2.1 a b i q h
    exact ⟨kd, List.mem_append_left _ hk⟩
  · rcases List.mem_append.mp h with h | h
    · exact hz.2.2 q k' h
    · rw [List.mem_singleton] at h
      cases h
      exact hr
/-- what a new cell asks of the rest: its place is free, what stands in locals and stack is there -/
theorem xNew {p : Program} {l : Launch} {e : Env} {R : Room} {s : State} {m : MethodId} {args : Array Value} {below : List Frame} {meth : Method} {c0 : Code} {D : va_G} {I : xD} {A : Nat → Prop} {ρe : xP} {Ye : xY} {ρ : xP} {H : Heap} {locs : List Loc} {cells slots : Nat} {ls : Array Slot} {Qm : State → Prop} {r c nw ln : Nat} {kd : Nat × Nat}
    (k : V own ini cc nL ret X d b (pc + ln) loc (xR r c :: st) (Y ++ [((r, c), kd)]) G N Q) (hf : ∀ k, ((r, c), k) ∉ Y) (hr : r < 1000000) (hvs : xVs Y loc st)
    (C : xCx own ini cc nL ret d p R s m args meth c0) (F : xFx I D A ρe X s) (Wo : xWo I D A s.heap H locs ρ Y G N) (Ag : xAg Ye ρe Y ρ) (hl : lv_has ls nL (xL ρ 0 loc) ∧ loc.length = nL) (hb : cells + (b.1 + 1) ≤ R.cells ∧ slots + (b.2 + nw) ≤ R.slots)
    (hE : ∀ (r : Option xAV) (Y' : xY) (G' : xG) (N' : xM) (ρ' : xP) (H' : Heap) (locs' : List Loc) (cells' slots' pc' : Nat) (ls' : Array Slot), Q r Y' G' N' → xOk ret Y' r → xWo I D A s.heap H' locs' ρ' Y' G' N' → xAg Ye ρe Y' ρ' → cells' ≤ R.cells ∧ slots' ≤ R.slots → decode cc pc' = .ok (xRi r, 1) → W p l e R s m args below meth c0 H' locs' cells' slots' Qm (F0 m pc' ls' (r.toList.map (xt ρ'))))
    {q : Nat} {H1 : Heap} (hP : va_P D vwCl (xw I ρ Y G N ++ [(q, xcell I ρ G N r c kd)]) H1) (hD : va_D A (xw I ρ Y G N ++ [(q, xcell I ρ G N r c kd)])) (hS : va_S A s.heap H1 locs) :
    W p l e R s m args below meth c0 H1 locs (cells + 1) (slots + nw) Qm (F0 m (pc + ln) ls (.ref q :: st.map (xt ρ))) := by
  have hg := xUp_ag (ρ := ρ) (k := kd) (q := q) hf hr
  have hw := xUp_w (I := I) (ρ := ρ) (k := kd) (q := q) hf hr Wo.2.2.2
  rw [← hw] at hP hD
  have e1 : (Value.ref q :: st.map (xt ρ)) = (xR r c :: st).map (xt (xUp ρ r c q)) := by
    rw [List.map_cons, xst_vl hg hvs.2]
    show _ = Value.ref (xUp ρ r c q r c) :: _
    unfold xUp
    rw [if_pos ⟨rfl, rfl⟩]
  rw [e1]
  exact k p l e R s m args below meth c0 D I A ρe Ye _ H1 locs _ _ ls Qm C F ⟨hP, hD, hS, xUp_z hr Wo.2.2.2⟩ (xAg_trans Ag hg) ⟨by rw [xL_vl hg loc 0 hvs.1]; exact hl.1, hl.2⟩ ⟨by omega, by omega⟩ hE
theorem x_def (ty : FieldType) (bo : Bool) (h1 : bo = false → ty = .int) (h2 : bo = true → (∃ n, ty = .object n) ∨ ∃ t, ty = .array t) : defaultValue ty = if bo then .null else .int 0 := by
  cases bo
  · rw [h1 rfl]; rfl
  · rcases h2 rfl with ⟨n, rfl⟩ | ⟨t, rfl⟩ <;> rfl
/-- what the tables say of a class whose objects are made -/
def xNc (own : String) (idx ci : Nat) (n : Nat) : Prop := ∃ (C : String) (T : u_T) (ty : Nat → FieldType), vwCl[ci]? = some (C, T, n) ∧ Cond.classLink own idx C ∈ xWd ∧ Cond.instantiable C n ∈ xWd ∧ Cond.initialized C ∈ xWd ∧ (∀ w ∈ u_ws C T n, w ∈ xWd) ∧ (∀ j, j < n → parseFieldDescriptor (T j).2.2.1 = some (ty j)) ∧ (∀ j, j < n → ∃ bo, (xF ci)[j]? = some bo ∧ (bo = false → ty j = .int) ∧ (bo = true → (∃ n, ty j = .object n) ∨ ∃ t, ty j = .array t))
theorem V_new {r c idx ci n : Nat} (hd : decode cc pc = .ok (.new idx, 3)) (hn : xNc own idx ci n) (hf : ∀ k, ((r, c), k) ∉ Y) (hr : r < 1000000) (hvs : xVs Y loc st) (k : V own ini cc nL ret X d b (pc + 3) loc (xR r c :: st) (Y ++ [((r, c), (0, ci))]) G N Q) : V own ini cc nL ret X d (b.1 + 1, b.2 + n) pc loc st Y G N Q := by
  intro p l e R s m args below meth c0 D I A ρe Ye ρ H locs cells slots ls Qm C F Wo Ag hl hb hE
  obtain ⟨Cn, T, ty, h1, h2, h3, h4, h5, h6, h7⟩ := hn
  have hts := C.2.2.2.2.2.2.1
  have hb1 : cells + (b.1 + 1) ≤ R.cells := hb.1
  have hb2 : slots + (b.2 + n) ≤ R.slots := hb.2
  obtain ⟨z1, z2⟩ := Wo.2.2.2.1 r c hf
  refine va_new (ci := ci) (fs := xfs ρ G N r c ci) C.1 C.2.1 hts h5 ty h6 C.2.2.2.2.2.1 (hts _ h2) (hts _ h3) (hts _ h4) F.1 Wo.1 Wo.2.1 Wo.2.2.1 F.2.2.2.2.1 h1 ?_ (by omega) (by omega) hd (fun q H1 hP hD hS => xNew k hf hr hvs C F Wo Ag hl ⟨hb1, hb2⟩ hE hP hD hS)
  intro j hj
  obtain ⟨bo, g1, g2, g3⟩ := h7 j hj
  rw [x_def _ bo g2 g3]
  unfold vp_V
  rw [List.getD_eq_getElem?_getD]
  cases bo
  · rw [xfs_I g1, z1]; rfl
  · rw [xfs_R g1, z2]; rfl
theorem V_newI {r c nn : Nat} {n : Int32} (hd : decode cc pc = .ok (.newarray .int, 2)) (hn : ¬ n < 0) (hN : n.toNatClampNeg = nn) (hs : nn ≤ 100000) (hf : ∀ k, ((r, c), k) ∉ Y) (hr : r < 1000000) (hvs : xVs Y loc st) (k : V own ini cc nL ret X d b (pc + 2) loc (xR r c :: st) (Y ++ [((r, c), (1, nn))]) G N Q) : V own ini cc nL ret X d (b.1 + 1, b.2 + nn) pc loc (xI n :: st) Y G N Q := by
  intro p l e R s m args below meth c0 D I A ρe Ye ρ H locs cells slots ls Qm C F Wo Ag hl hb hE
  have hts := C.2.2.2.2.2.2.1
  have hb1 : cells + (b.1 + 1) ≤ R.cells := hb.1
  have hb2 : slots + (b.2 + nn) ≤ R.slots := hb.2
  obtain ⟨z1, z2⟩ := Wo.2.2.2.1 r c hf
  refine va_newa (atype := .int) (ty := .int) (a0 := (nn, .inl (fun _ => 0))) C.1 C.2.1 (hts _ xw_ai) rfl F.1 Wo.1 Wo.2.1 Wo.2.2.1 F.2.2.2.2.1 (fun _ => rfl) hn hN (by show nn * 4 ≤ _; omega) (by omega) (by omega) hd (fun q cA H1 hK hP hD hS => ?_)
  have e1 : some cA = some I.1 := ((hK.2 4 (cA, .int) rfl).2 : s.vm.findClass _ = some cA).symm.trans (F.1.2 0 (I.1, .int) rfl).2
  cases e1
  have e2 : xcell I ρ G N r c (1, nn) = .inl (I.1, nn, .inl (fun _ => 0)) := by simp only [xcell, z1]
  rw [← e2] at hP hD
  exact xNew k hf hr hvs C F Wo Ag hl ⟨hb1, hb2⟩ hE hP hD hS
theorem V_newZ {r c nn : Nat} {n : Int32} (hd : decode cc pc = .ok (.newarray .boolean, 2)) (hn : ¬ n < 0) (hN : n.toNatClampNeg = nn) (hs : nn ≤ 100000) (hf : ∀ k, ((r, c), k) ∉ Y) (hr : r < 1000000) (hvs : xVs Y loc st) (k : V own ini cc nL ret X d b (pc + 2) loc (xR r c :: st) (Y ++ [((r, c), (4, nn))]) G N Q) : V own ini cc nL ret X d (b.1 + 1, b.2 + nn) pc loc (xI n :: st) Y G N Q := by
  intro p l e R s m args below meth c0 D I A ρe Ye ρ H locs cells slots ls Qm C F Wo Ag hl hb hE
  have hts := C.2.2.2.2.2.2.1
  have hb1 : cells + (b.1 + 1) ≤ R.cells := hb.1
  have hb2 : slots + (b.2 + nn) ≤ R.slots := hb.2
  obtain ⟨z1, z2⟩ := Wo.2.2.2.1 r c hf
  refine va_newa (atype := .boolean) (ty := .boolean) (a0 := (nn, .inl (fun _ => 0))) C.1 C.2.1 (hts _ xw_az) rfl F.1 Wo.1 Wo.2.1 Wo.2.2.1 F.2.2.2.2.1 (fun _ => rfl) hn hN (by show nn * 1 ≤ _; omega) (by omega) (by omega) hd (fun q cA H1 hK hP hD hS => ?_)
  have e1 : some cA = some I.2.1 := ((hK.2 4 (cA, .boolean) rfl).2 : s.vm.findClass _ = some cA).symm.trans (F.1.2 1 (I.2.1, .boolean) rfl).2
  cases e1
  have e2 : xcell I ρ G N r c (4, nn) = .inl (I.2.1, nn, .inl (fun _ => 0)) := by simp only [xcell, z1]
  rw [← e2] at hP hD
  exact xNew k hf hr hvs C F Wo Ag hl ⟨hb1, hb2⟩ hE hP hD hS
theorem V_newT {r c nn idx : Nat} {n : Int32} (hd : decode cc pc = .ok (.anewarray idx, 3)) (hw : Cond.classLink own idx "MarbleRun$Track" ∈ xWd) (hn : ¬ n < 0) (hN : n.toNatClampNeg = nn) (hs : nn ≤ 100000) (hf : ∀ k, ((r, c), k) ∉ Y) (hr : r < 1000000) (hvs : xVs Y loc st) (k : V own ini cc nL ret X d b (pc + 3) loc (xR r c :: st) (Y ++ [((r, c), (2, nn))]) G N Q) : V own ini cc nL ret X d (b.1 + 1, b.2 + nn) pc loc (xI n :: st) Y G N Q := by
  intro p l e R s m args below meth c0 D I A ρe Ye ρ H locs cells slots ls Qm C F Wo Ag hl hb hE
  have hts := C.2.2.2.2.2.2.1
  have hb1 : cells + (b.1 + 1) ≤ R.cells := hb.1
  have hb2 : slots + (b.2 + nn) ≤ R.slots := hb.2
  obtain ⟨z1, z2⟩ := Wo.2.2.2.1 r c hf
  refine va_newq (C := "MarbleRun$Track") C.1 C.2.1 C.2.2.2.2.2.1 (hts _ hw) F.2.1 F.1 Wo.1 Wo.2.1 Wo.2.2.1 F.2.2.2.2.1 hn hN (by omega) (by omega) (by omega) hd (fun q cA H1 hK hP hD hS => ?_)
  obtain ⟨kA, comp, -, -, -, g1⟩ := (hK.2 4 (cA, .object "MarbleRun$Track") rfl).2
  obtain ⟨kA', comp', -, -, -, g2⟩ := (F.1.2 2 (I.2.2.1, .object "MarbleRun$Track") rfl).2
  have e1 : some cA = some I.2.2.1 := g1.symm.trans g2
  cases e1
  have e2 : xcell I ρ G N r c (2, nn) = .inl (I.2.2.1, nn, .inr (.inr (.inr (.inr (fun _ => none))))) := by simp only [xcell, z2]; rfl
  rw [← e2] at hP hD
  exact xNew k hf hr hvs C F Wo Ag hl ⟨hb1, hb2⟩ hE hP hD hS
end XR
end
