section
-- ===== PART A: goes FIRST, ahead of the names: the tables' words, and 'selects' of the private methods out of them =====
/-- a private method of a class that the tables say can be made, by its rows of tables_1 -/
def lw_okq (q : MethodName × Nat) : Prop := (q.1.cls ≠ "java/lang/invoke/MethodHandle" ∧ q.1.cls ≠ "java/lang/invoke/VarHandle") ∧ Cond.instantiable q.1.cls q.2 ∈ tables_1 ∧ Cond.privateMethod q.1 ∈ tables_1 ∧ Cond.instanceMethod q.1 ∈ tables_1
theorem lw_p0 : lw_okq (⟨"BorrowedHours$History", "dropOldest", "()V"⟩, 2) := ⟨⟨by decide +kernel, by decide +kernel⟩, List.mem_of_getElem? (i := 104) (by decide +kernel), List.mem_of_getElem? (i := 232) (by decide +kernel), List.mem_of_getElem? (i := 233) (by decide +kernel)⟩
theorem lw_p1 : lw_okq (⟨"BorrowedHours", "timesNow", "()LBorrowedHours$Times;"⟩, 8) := ⟨⟨by decide +kernel, by decide +kernel⟩, List.mem_of_getElem? (i := 14) (by decide +kernel), List.mem_of_getElem? (i := 302) (by decide +kernel), List.mem_of_getElem? (i := 303) (by decide +kernel)⟩
theorem lw_p2 : lw_okq (⟨"BorrowedHours$Times", "learnRounds", "(I)Z"⟩, 7) := ⟨⟨by decide +kernel, by decide +kernel⟩, List.mem_of_getElem? (i := 316) (by decide +kernel), List.mem_of_getElem? (i := 349) (by decide +kernel), List.mem_of_getElem? (i := 350) (by decide +kernel)⟩
theorem lw_p3 : lw_okq (⟨"BorrowedHours$Times", "bidForces", "(IIII)Z"⟩, 7) := ⟨⟨by decide +kernel, by decide +kernel⟩, List.mem_of_getElem? (i := 316) (by decide +kernel), List.mem_of_getElem? (i := 353) (by decide +kernel), List.mem_of_getElem? (i := 354) (by decide +kernel)⟩
theorem lw_p4 : lw_okq (⟨"BorrowedHours$Times", "lost", "(IIIIIZ)Z"⟩, 7) := ⟨⟨by decide +kernel, by decide +kernel⟩, List.mem_of_getElem? (i := 316) (by decide +kernel), List.mem_of_getElem? (i := 357) (by decide +kernel), List.mem_of_getElem? (i := 358) (by decide +kernel)⟩
theorem lw_p5 : lw_okq (⟨"BorrowedHours$Times", "neverTakes", "(I)Z"⟩, 7) := ⟨⟨by decide +kernel, by decide +kernel⟩, List.mem_of_getElem? (i := 316) (by decide +kernel), List.mem_of_getElem? (i := 365) (by decide +kernel), List.mem_of_getElem? (i := 366) (by decide +kernel)⟩
theorem lw_p6 : lw_okq (⟨"BorrowedHours$Times", "taken", "(IIIIIZ)Z"⟩, 7) := ⟨⟨by decide +kernel, by decide +kernel⟩, List.mem_of_getElem? (i := 316) (by decide +kernel), List.mem_of_getElem? (i := 369) (by decide +kernel), List.mem_of_getElem? (i := 370) (by decide +kernel)⟩
theorem lw_p7 : lw_okq (⟨"BorrowedHours$Times", "answerForces", "(IIII)Z"⟩, 7) := ⟨⟨by decide +kernel, by decide +kernel⟩, List.mem_of_getElem? (i := 316) (by decide +kernel), List.mem_of_getElem? (i := 373) (by decide +kernel), List.mem_of_getElem? (i := 374) (by decide +kernel)⟩
theorem lw_p8 : lw_okq (⟨"BorrowedHours$Advice", "longestOwn", "(LBorrowedHours$Times;I)I"⟩, 1) := ⟨⟨by decide +kernel, by decide +kernel⟩, List.mem_of_getElem? (i := 163) (by decide +kernel), List.mem_of_getElem? (i := 382) (by decide +kernel), List.mem_of_getElem? (i := 383) (by decide +kernel)⟩
theorem lw_p9 : lw_okq (⟨"BorrowedHours$Advice", "timeBehind", "(LBorrowedHours$Times;III)I"⟩, 1) := ⟨⟨by decide +kernel, by decide +kernel⟩, List.mem_of_getElem? (i := 163) (by decide +kernel), List.mem_of_getElem? (i := 386) (by decide +kernel), List.mem_of_getElem? (i := 387) (by decide +kernel)⟩
theorem lw_p10 : lw_okq (⟨"BorrowedHours$Advice", "findDelay", "(LBorrowedHours$Times;)I"⟩, 1) := ⟨⟨by decide +kernel, by decide +kernel⟩, List.mem_of_getElem? (i := 163) (by decide +kernel), List.mem_of_getElem? (i := 398) (by decide +kernel), List.mem_of_getElem? (i := 399) (by decide +kernel)⟩
theorem lw_p11 : lw_okq (⟨"BorrowedHours$Advice", "leastOther", "(LBorrowedHours$Times;I)I"⟩, 1) := ⟨⟨by decide +kernel, by decide +kernel⟩, List.mem_of_getElem? (i := 163) (by decide +kernel), List.mem_of_getElem? (i := 402) (by decide +kernel), List.mem_of_getElem? (i := 403) (by decide +kernel)⟩
theorem lw_p12 : lw_okq (⟨"BorrowedHours", "playPad", "()I"⟩, 8) := ⟨⟨by decide +kernel, by decide +kernel⟩, List.mem_of_getElem? (i := 14) (by decide +kernel), List.mem_of_getElem? (i := 426) (by decide +kernel), List.mem_of_getElem? (i := 427) (by decide +kernel)⟩
theorem lw_p13 : lw_okq (⟨"BorrowedHours", "timeWith", "(II)I"⟩, 8) := ⟨⟨by decide +kernel, by decide +kernel⟩, List.mem_of_getElem? (i := 14) (by decide +kernel), List.mem_of_getElem? (i := 443) (by decide +kernel), List.mem_of_getElem? (i := 444) (by decide +kernel)⟩
theorem lw_p14 : lw_okq (⟨"BorrowedHours$Foresight", "seesWin", "(IIIIZ)Z"⟩, 1) := ⟨⟨by decide +kernel, by decide +kernel⟩, List.mem_of_getElem? (i := 173) (by decide +kernel), List.mem_of_getElem? (i := 469) (by decide +kernel), List.mem_of_getElem? (i := 470) (by decide +kernel)⟩
theorem lw_p15 : lw_okq (⟨"BorrowedHours$Foresight", "seesBid", "(IIII)Z"⟩, 1) := ⟨⟨by decide +kernel, by decide +kernel⟩, List.mem_of_getElem? (i := 173) (by decide +kernel), List.mem_of_getElem? (i := 473) (by decide +kernel), List.mem_of_getElem? (i := 474) (by decide +kernel)⟩
def lw_privs_1 : List (MethodName × Nat) := [(⟨"BorrowedHours$History", "dropOldest", "()V"⟩, 2), (⟨"BorrowedHours", "timesNow", "()LBorrowedHours$Times;"⟩, 8), (⟨"BorrowedHours$Times", "learnRounds", "(I)Z"⟩, 7), (⟨"BorrowedHours$Times", "bidForces", "(IIII)Z"⟩, 7), (⟨"BorrowedHours$Times", "lost", "(IIIIIZ)Z"⟩, 7), (⟨"BorrowedHours$Times", "neverTakes", "(I)Z"⟩, 7), (⟨"BorrowedHours$Times", "taken", "(IIIIIZ)Z"⟩, 7), (⟨"BorrowedHours$Times", "answerForces", "(IIII)Z"⟩, 7), (⟨"BorrowedHours$Advice", "longestOwn", "(LBorrowedHours$Times;I)I"⟩, 1), (⟨"BorrowedHours$Advice", "timeBehind", "(LBorrowedHours$Times;III)I"⟩, 1), (⟨"BorrowedHours$Advice", "findDelay", "(LBorrowedHours$Times;)I"⟩, 1), (⟨"BorrowedHours$Advice", "leastOther", "(LBorrowedHours$Times;I)I"⟩, 1), (⟨"BorrowedHours", "playPad", "()I"⟩, 8), (⟨"BorrowedHours", "timeWith", "(II)I"⟩, 8), (⟨"BorrowedHours$Foresight", "seesWin", "(IIIIZ)Z"⟩, 1), (⟨"BorrowedHours$Foresight", "seesBid", "(IIII)Z"⟩, 1)]
theorem lw_r1 : ∀ q ∈ lw_privs_1, lw_okq q := List.forall_mem_cons.mpr ⟨lw_p0, List.forall_mem_cons.mpr ⟨lw_p1, List.forall_mem_cons.mpr ⟨lw_p2, List.forall_mem_cons.mpr ⟨lw_p3, List.forall_mem_cons.mpr ⟨lw_p4, List.forall_mem_cons.mpr ⟨lw_p5, List.forall_mem_cons.mpr ⟨lw_p6, List.forall_mem_cons.mpr ⟨lw_p7, List.forall_mem_cons.mpr ⟨lw_p8, List.forall_mem_cons.mpr ⟨lw_p9, List.forall_mem_cons.mpr ⟨lw_p10, List.forall_mem_cons.mpr ⟨lw_p11, List.forall_mem_cons.mpr ⟨lw_p12, List.forall_mem_cons.mpr ⟨lw_p13, List.forall_mem_cons.mpr ⟨lw_p14, List.forall_mem_cons.mpr ⟨lw_p15, fun _ h => absurd h List.not_mem_nil⟩⟩⟩⟩⟩⟩⟩⟩⟩⟩⟩⟩⟩⟩⟩⟩
theorem lw_p16 : lw_okq (⟨"BorrowedHours$Foresight", "standsAllAnswers", "(IIIII)Z"⟩, 1) := ⟨⟨by decide +kernel, by decide +kernel⟩, List.mem_of_getElem? (i := 173) (by decide +kernel), List.mem_of_getElem? (i := 477) (by decide +kernel), List.mem_of_getElem? (i := 478) (by decide +kernel)⟩
theorem lw_p17 : lw_okq (⟨"BorrowedHours$Foresight", "canTake", "(I)Z"⟩, 1) := ⟨⟨by decide +kernel, by decide +kernel⟩, List.mem_of_getElem? (i := 173) (by decide +kernel), List.mem_of_getElem? (i := 481) (by decide +kernel), List.mem_of_getElem? (i := 482) (by decide +kernel)⟩
theorem lw_p18 : lw_okq (⟨"BorrowedHours$Foresight", "seesTaken", "(IIIIIZ)Z"⟩, 1) := ⟨⟨by decide +kernel, by decide +kernel⟩, List.mem_of_getElem? (i := 173) (by decide +kernel), List.mem_of_getElem? (i := 485) (by decide +kernel), List.mem_of_getElem? (i := 486) (by decide +kernel)⟩
theorem lw_p19 : lw_okq (⟨"BorrowedHours$Foresight", "leastTaking", "(I)I"⟩, 1) := ⟨⟨by decide +kernel, by decide +kernel⟩, List.mem_of_getElem? (i := 173) (by decide +kernel), List.mem_of_getElem? (i := 490) (by decide +kernel), List.mem_of_getElem? (i := 491) (by decide +kernel)⟩
theorem lw_p20 : lw_okq (⟨"BorrowedHours$Foresight", "seesLost", "(IIIIIZ)Z"⟩, 1) := ⟨⟨by decide +kernel, by decide +kernel⟩, List.mem_of_getElem? (i := 173) (by decide +kernel), List.mem_of_getElem? (i := 494) (by decide +kernel), List.mem_of_getElem? (i := 495) (by decide +kernel)⟩
theorem lw_p21 : lw_okq (⟨"BorrowedHours$Foresight", "seesAnswers", "(IIII)Z"⟩, 1) := ⟨⟨by decide +kernel, by decide +kernel⟩, List.mem_of_getElem? (i := 173) (by decide +kernel), List.mem_of_getElem? (i := 498) (by decide +kernel), List.mem_of_getElem? (i := 499) (by decide +kernel)⟩
theorem lw_p22 : lw_okq (⟨"BorrowedHours$Foresight", "hasAnswer", "(IIIII)Z"⟩, 1) := ⟨⟨by decide +kernel, by decide +kernel⟩, List.mem_of_getElem? (i := 173) (by decide +kernel), List.mem_of_getElem? (i := 502) (by decide +kernel), List.mem_of_getElem? (i := 503) (by decide +kernel)⟩
theorem lw_p23 : lw_okq (⟨"BorrowedHours", "slotOf", "(I)LBorrowedHours$Slot;"⟩, 8) := ⟨⟨by decide +kernel, by decide +kernel⟩, List.mem_of_getElem? (i := 14) (by decide +kernel), List.mem_of_getElem? (i := 561) (by decide +kernel), List.mem_of_getElem? (i := 562) (by decide +kernel)⟩
theorem lw_p24 : lw_okq (⟨"BorrowedHoursModel", "newGame", "()V"⟩, 15) := ⟨⟨by decide +kernel, by decide +kernel⟩, List.mem_of_getElem? (i := 570) (by decide +kernel), List.mem_of_getElem? (i := 576) (by decide +kernel), List.mem_of_getElem? (i := 577) (by decide +kernel)⟩
theorem lw_p25 : lw_okq (⟨"BorrowedHoursModel", "changes", "()V"⟩, 15) := ⟨⟨by decide +kernel, by decide +kernel⟩, List.mem_of_getElem? (i := 570) (by decide +kernel), List.mem_of_getElem? (i := 638) (by decide +kernel), List.mem_of_getElem? (i := 639) (by decide +kernel)⟩
theorem lw_p26 : lw_okq (⟨"BorrowedHoursModel", "canPlay", "(II)Z"⟩, 15) := ⟨⟨by decide +kernel, by decide +kernel⟩, List.mem_of_getElem? (i := 570) (by decide +kernel), List.mem_of_getElem? (i := 652) (by decide +kernel), List.mem_of_getElem? (i := 653) (by decide +kernel)⟩
theorem lw_p27 : lw_okq (⟨"BorrowedHoursModel", "isOver", "()Z"⟩, 15) := ⟨⟨by decide +kernel, by decide +kernel⟩, List.mem_of_getElem? (i := 570) (by decide +kernel), List.mem_of_getElem? (i := 656) (by decide +kernel), List.mem_of_getElem? (i := 657) (by decide +kernel)⟩
theorem lw_p28 : lw_okq (⟨"BorrowedHoursModel", "winnerAt", "(I)I"⟩, 15) := ⟨⟨by decide +kernel, by decide +kernel⟩, List.mem_of_getElem? (i := 570) (by decide +kernel), List.mem_of_getElem? (i := 660) (by decide +kernel), List.mem_of_getElem? (i := 661) (by decide +kernel)⟩
theorem lw_p29 : lw_okq (⟨"BorrowedHoursModel", "most", "(I)I"⟩, 15) := ⟨⟨by decide +kernel, by decide +kernel⟩, List.mem_of_getElem? (i := 570) (by decide +kernel), List.mem_of_getElem? (i := 664) (by decide +kernel), List.mem_of_getElem? (i := 665) (by decide +kernel)⟩
theorem lw_p30 : lw_okq (⟨"BorrowedHoursModel", "plays", "(II)I"⟩, 15) := ⟨⟨by decide +kernel, by decide +kernel⟩, List.mem_of_getElem? (i := 570) (by decide +kernel), List.mem_of_getElem? (i := 668) (by decide +kernel), List.mem_of_getElem? (i := 669) (by decide +kernel)⟩
theorem lw_p31 : lw_okq (⟨"BorrowedHoursModel", "taker", "(III)I"⟩, 15) := ⟨⟨by decide +kernel, by decide +kernel⟩, List.mem_of_getElem? (i := 570) (by decide +kernel), List.mem_of_getElem? (i := 672) (by decide +kernel), List.mem_of_getElem? (i := 673) (by decide +kernel)⟩
def lw_privs_2 : List (MethodName × Nat) := [(⟨"BorrowedHours$Foresight", "standsAllAnswers", "(IIIII)Z"⟩, 1), (⟨"BorrowedHours$Foresight", "canTake", "(I)Z"⟩, 1), (⟨"BorrowedHours$Foresight", "seesTaken", "(IIIIIZ)Z"⟩, 1), (⟨"BorrowedHours$Foresight", "leastTaking", "(I)I"⟩, 1), (⟨"BorrowedHours$Foresight", "seesLost", "(IIIIIZ)Z"⟩, 1), (⟨"BorrowedHours$Foresight", "seesAnswers", "(IIII)Z"⟩, 1), (⟨"BorrowedHours$Foresight", "hasAnswer", "(IIIII)Z"⟩, 1), (⟨"BorrowedHours", "slotOf", "(I)LBorrowedHours$Slot;"⟩, 8), (⟨"BorrowedHoursModel", "newGame", "()V"⟩, 15), (⟨"BorrowedHoursModel", "changes", "()V"⟩, 15), (⟨"BorrowedHoursModel", "canPlay", "(II)Z"⟩, 15), (⟨"BorrowedHoursModel", "isOver", "()Z"⟩, 15), (⟨"BorrowedHoursModel", "winnerAt", "(I)I"⟩, 15), (⟨"BorrowedHoursModel", "most", "(I)I"⟩, 15), (⟨"BorrowedHoursModel", "plays", "(II)I"⟩, 15), (⟨"BorrowedHoursModel", "taker", "(III)I"⟩, 15)]
theorem lw_r2 : ∀ q ∈ lw_privs_2, lw_okq q := List.forall_mem_cons.mpr ⟨lw_p16, List.forall_mem_cons.mpr ⟨lw_p17, List.forall_mem_cons.mpr ⟨lw_p18, List.forall_mem_cons.mpr ⟨lw_p19, List.forall_mem_cons.mpr ⟨lw_p20, List.forall_mem_cons.mpr ⟨lw_p21, List.forall_mem_cons.mpr ⟨lw_p22, List.forall_mem_cons.mpr ⟨lw_p23, List.forall_mem_cons.mpr ⟨lw_p24, List.forall_mem_cons.mpr ⟨lw_p25, List.forall_mem_cons.mpr ⟨lw_p26, List.forall_mem_cons.mpr ⟨lw_p27, List.forall_mem_cons.mpr ⟨lw_p28, List.forall_mem_cons.mpr ⟨lw_p29, List.forall_mem_cons.mpr ⟨lw_p30, List.forall_mem_cons.mpr ⟨lw_p31, fun _ h => absurd h List.not_mem_nil⟩⟩⟩⟩⟩⟩⟩⟩⟩⟩⟩⟩⟩⟩⟩⟩
theorem lw_p32 : lw_okq (⟨"BorrowedHoursModel", "knows", "(I)V"⟩, 15) := ⟨⟨by decide +kernel, by decide +kernel⟩, List.mem_of_getElem? (i := 570) (by decide +kernel), List.mem_of_getElem? (i := 684) (by decide +kernel), List.mem_of_getElem? (i := 685) (by decide +kernel)⟩
theorem lw_p33 : lw_okq (⟨"BorrowedHoursModel", "worksOutAll", "(II)V"⟩, 15) := ⟨⟨by decide +kernel, by decide +kernel⟩, List.mem_of_getElem? (i := 570) (by decide +kernel), List.mem_of_getElem? (i := 688) (by decide +kernel), List.mem_of_getElem? (i := 689) (by decide +kernel)⟩
theorem lw_p34 : lw_okq (⟨"BorrowedHoursModel", "lowest", "()I"⟩, 15) := ⟨⟨by decide +kernel, by decide +kernel⟩, List.mem_of_getElem? (i := 570) (by decide +kernel), List.mem_of_getElem? (i := 692) (by decide +kernel), List.mem_of_getElem? (i := 693) (by decide +kernel)⟩
theorem lw_p35 : lw_okq (⟨"BorrowedHoursModel", "worksOut", "(III)V"⟩, 15) := ⟨⟨by decide +kernel, by decide +kernel⟩, List.mem_of_getElem? (i := 570) (by decide +kernel), List.mem_of_getElem? (i := 696) (by decide +kernel), List.mem_of_getElem? (i := 697) (by decide +kernel)⟩
theorem lw_p36 : lw_okq (⟨"BorrowedHoursModel", "canForce", "(IIIIII)Z"⟩, 15) := ⟨⟨by decide +kernel, by decide +kernel⟩, List.mem_of_getElem? (i := 570) (by decide +kernel), List.mem_of_getElem? (i := 703) (by decide +kernel), List.mem_of_getElem? (i := 704) (by decide +kernel)⟩
theorem lw_p37 : lw_okq (⟨"BorrowedHoursModel", "behind", "(IIIIIII)I"⟩, 15) := ⟨⟨by decide +kernel, by decide +kernel⟩, List.mem_of_getElem? (i := 570) (by decide +kernel), List.mem_of_getElem? (i := 707) (by decide +kernel), List.mem_of_getElem? (i := 708) (by decide +kernel)⟩
theorem lw_p38 : lw_okq (⟨"BorrowedHoursModel", "worstBehind", "(I)I"⟩, 15) := ⟨⟨by decide +kernel, by decide +kernel⟩, List.mem_of_getElem? (i := 570) (by decide +kernel), List.mem_of_getElem? (i := 711) (by decide +kernel), List.mem_of_getElem? (i := 712) (by decide +kernel)⟩
theorem lw_p39 : lw_okq (⟨"BorrowedHoursModel", "timeBehind", "(III)I"⟩, 15) := ⟨⟨by decide +kernel, by decide +kernel⟩, List.mem_of_getElem? (i := 570) (by decide +kernel), List.mem_of_getElem? (i := 715) (by decide +kernel), List.mem_of_getElem? (i := 716) (by decide +kernel)⟩
theorem lw_p40 : lw_okq (⟨"BorrowedHoursModel", "othersBehind", "(I)I"⟩, 15) := ⟨⟨by decide +kernel, by decide +kernel⟩, List.mem_of_getElem? (i := 570) (by decide +kernel), List.mem_of_getElem? (i := 719) (by decide +kernel), List.mem_of_getElem? (i := 720) (by decide +kernel)⟩
theorem lw_p41 : lw_okq (⟨"BorrowedHoursModel", "answerTo", "(I)I"⟩, 15) := ⟨⟨by decide +kernel, by decide +kernel⟩, List.mem_of_getElem? (i := 570) (by decide +kernel), List.mem_of_getElem? (i := 723) (by decide +kernel), List.mem_of_getElem? (i := 724) (by decide +kernel)⟩
theorem lw_p42 : lw_okq (⟨"BorrowedHoursModel", "timeOf", "(I)I"⟩, 15) := ⟨⟨by decide +kernel, by decide +kernel⟩, List.mem_of_getElem? (i := 570) (by decide +kernel), List.mem_of_getElem? (i := 734) (by decide +kernel), List.mem_of_getElem? (i := 735) (by decide +kernel)⟩
theorem lw_p43 : lw_okq (⟨"BorrowedHoursModel", "timeWith", "(III)I"⟩, 15) := ⟨⟨by decide +kernel, by decide +kernel⟩, List.mem_of_getElem? (i := 570) (by decide +kernel), List.mem_of_getElem? (i := 738) (by decide +kernel), List.mem_of_getElem? (i := 739) (by decide +kernel)⟩
theorem lw_p44 : lw_okq (⟨"BorrowedHoursModel", "readsRound", "()Z"⟩, 15) := ⟨⟨by decide +kernel, by decide +kernel⟩, List.mem_of_getElem? (i := 570) (by decide +kernel), List.mem_of_getElem? (i := 787) (by decide +kernel), List.mem_of_getElem? (i := 788) (by decide +kernel)⟩
theorem lw_p45 : lw_okq (⟨"BorrowedHoursModel", "readsBid", "()Z"⟩, 15) := ⟨⟨by decide +kernel, by decide +kernel⟩, List.mem_of_getElem? (i := 570) (by decide +kernel), List.mem_of_getElem? (i := 791) (by decide +kernel), List.mem_of_getElem? (i := 792) (by decide +kernel)⟩
theorem lw_p46 : lw_okq (⟨"BorrowedHoursModel", "isHere", "(II)Z"⟩, 15) := ⟨⟨by decide +kernel, by decide +kernel⟩, List.mem_of_getElem? (i := 570) (by decide +kernel), List.mem_of_getElem? (i := 795) (by decide +kernel), List.mem_of_getElem? (i := 796) (by decide +kernel)⟩
theorem lw_p47 : lw_okq (⟨"BorrowedHoursModel", "takesOne", "(I)Z"⟩, 15) := ⟨⟨by decide +kernel, by decide +kernel⟩, List.mem_of_getElem? (i := 570) (by decide +kernel), List.mem_of_getElem? (i := 799) (by decide +kernel), List.mem_of_getElem? (i := 800) (by decide +kernel)⟩
def lw_privs_3 : List (MethodName × Nat) := [(⟨"BorrowedHoursModel", "knows", "(I)V"⟩, 15), (⟨"BorrowedHoursModel", "worksOutAll", "(II)V"⟩, 15), (⟨"BorrowedHoursModel", "lowest", "()I"⟩, 15), (⟨"BorrowedHoursModel", "worksOut", "(III)V"⟩, 15), (⟨"BorrowedHoursModel", "canForce", "(IIIIII)Z"⟩, 15), (⟨"BorrowedHoursModel", "behind", "(IIIIIII)I"⟩, 15), (⟨"BorrowedHoursModel", "worstBehind", "(I)I"⟩, 15), (⟨"BorrowedHoursModel", "timeBehind", "(III)I"⟩, 15), (⟨"BorrowedHoursModel", "othersBehind", "(I)I"⟩, 15), (⟨"BorrowedHoursModel", "answerTo", "(I)I"⟩, 15), (⟨"BorrowedHoursModel", "timeOf", "(I)I"⟩, 15), (⟨"BorrowedHoursModel", "timeWith", "(III)I"⟩, 15), (⟨"BorrowedHoursModel", "readsRound", "()Z"⟩, 15), (⟨"BorrowedHoursModel", "readsBid", "()Z"⟩, 15), (⟨"BorrowedHoursModel", "isHere", "(II)Z"⟩, 15), (⟨"BorrowedHoursModel", "takesOne", "(I)Z"⟩, 15)]
theorem lw_r3 : ∀ q ∈ lw_privs_3, lw_okq q := List.forall_mem_cons.mpr ⟨lw_p32, List.forall_mem_cons.mpr ⟨lw_p33, List.forall_mem_cons.mpr ⟨lw_p34, List.forall_mem_cons.mpr ⟨lw_p35, List.forall_mem_cons.mpr ⟨lw_p36, List.forall_mem_cons.mpr ⟨lw_p37, List.forall_mem_cons.mpr ⟨lw_p38, List.forall_mem_cons.mpr ⟨lw_p39, List.forall_mem_cons.mpr ⟨lw_p40, List.forall_mem_cons.mpr ⟨lw_p41, List.forall_mem_cons.mpr ⟨lw_p42, List.forall_mem_cons.mpr ⟨lw_p43, List.forall_mem_cons.mpr ⟨lw_p44, List.forall_mem_cons.mpr ⟨lw_p45, List.forall_mem_cons.mpr ⟨lw_p46, List.forall_mem_cons.mpr ⟨lw_p47, fun _ h => absurd h List.not_mem_nil⟩⟩⟩⟩⟩⟩⟩⟩⟩⟩⟩⟩⟩⟩⟩⟩
def lw_privs : List (MethodName × Nat) := lw_privs_1 ++ (lw_privs_2 ++ (lw_privs_3))
def lw_tbl : List Cond := k2_sels lw_privs ++ tables_1
theorem lw_privs_ok : ∀ q ∈ lw_privs, lw_okq q := by
  show ∀ q ∈ lw_privs_1 ++ (lw_privs_2 ++ (lw_privs_3)), lw_okq q
  exact List.forall_mem_append.mpr ⟨lw_r1, List.forall_mem_append.mpr ⟨lw_r2, lw_r3⟩⟩
end
section
def RX0 : String := "BorrowedHours$Advice"
def TX0 : u_T := fun k => match k with
  | _ => ("BorrowedHours$Advice", "game", "LBorrowedHours$Game;", true)
def tyX0 : Nat → FieldType := fun k => match k with
  | _ => .object "BorrowedHours$Game"
theorem nmX0 : ∀ a, a < 1 → ∀ b, b < 1 → a ≠ b → (TX0 a).2.1 ≠ (TX0 b).2.1 := by decide +kernel
theorem tyX0_ok : ∀ k, k < 1 → parseFieldDescriptor (TX0 k).2.2.1 = some (tyX0 k) := by decide +kernel
abbrev cX0_init : ByteArray := prog_2_method_1_code
def yX0_init : MethodName := ⟨RX0, "<init>", "(LBorrowedHours$Game;)V"⟩
abbrev cX0_findBid : ByteArray := prog_2_method_2_code
def yX0_findBid : MethodName := ⟨RX0, "findBid", "(LBorrowedHours$Times;)I"⟩
abbrev cX0_findDelay : ByteArray := prog_2_method_3_code
def yX0_findDelay : MethodName := ⟨RX0, "findDelay", "(LBorrowedHours$Times;)I"⟩
abbrev cX0_findAnswer : ByteArray := prog_2_method_4_code
def yX0_findAnswer : MethodName := ⟨RX0, "findAnswer", "(LBorrowedHours$Times;I)I"⟩
abbrev cX0_countKeeping : ByteArray := prog_2_method_5_code
def yX0_countKeeping : MethodName := ⟨RX0, "countKeeping", "(LBorrowedHours$Times;)I"⟩
abbrev cX0_longestOwn : ByteArray := prog_2_method_6_code
def yX0_longestOwn : MethodName := ⟨RX0, "longestOwn", "(LBorrowedHours$Times;I)I"⟩
abbrev cX0_leastOther : ByteArray := prog_2_method_7_code
def yX0_leastOther : MethodName := ⟨RX0, "leastOther", "(LBorrowedHours$Times;I)I"⟩
abbrev cX0_timeBehind : ByteArray := prog_2_method_8_code
def yX0_timeBehind : MethodName := ⟨RX0, "timeBehind", "(LBorrowedHours$Times;III)I"⟩
def RX1 : String := "BorrowedHours$Foresight"
def TX1 : u_T := fun k => match k with
  | _ => ("BorrowedHours$Foresight", "game", "LBorrowedHours$Game;", true)
def tyX1 : Nat → FieldType := fun k => match k with
  | _ => .object "BorrowedHours$Game"
theorem nmX1 : ∀ a, a < 1 → ∀ b, b < 1 → a ≠ b → (TX1 a).2.1 ≠ (TX1 b).2.1 := by decide +kernel
theorem tyX1_ok : ∀ k, k < 1 → parseFieldDescriptor (TX1 k).2.2.1 = some (tyX1 k) := by decide +kernel
abbrev cX1_init : ByteArray := prog_3_method_1_code
def yX1_init : MethodName := ⟨RX1, "<init>", "(LBorrowedHours$Game;)V"⟩
abbrev cX1_seesWinOf : ByteArray := prog_3_method_2_code
def yX1_seesWinOf : MethodName := ⟨RX1, "seesWinOf", "(II)Z"⟩
abbrev cX1_seesWin : ByteArray := prog_3_method_3_code
def yX1_seesWin : MethodName := ⟨RX1, "seesWin", "(IIIIZ)Z"⟩
abbrev cX1_seesBid : ByteArray := prog_3_method_4_code
def yX1_seesBid : MethodName := ⟨RX1, "seesBid", "(IIII)Z"⟩
abbrev cX1_standsAllAnswers : ByteArray := prog_3_method_5_code
def yX1_standsAllAnswers : MethodName := ⟨RX1, "standsAllAnswers", "(IIIII)Z"⟩
abbrev cX1_seesAnswers : ByteArray := prog_3_method_6_code
def yX1_seesAnswers : MethodName := ⟨RX1, "seesAnswers", "(IIII)Z"⟩
abbrev cX1_hasAnswer : ByteArray := prog_3_method_7_code
def yX1_hasAnswer : MethodName := ⟨RX1, "hasAnswer", "(IIIII)Z"⟩
abbrev cX1_canTake : ByteArray := prog_3_method_8_code
def yX1_canTake : MethodName := ⟨RX1, "canTake", "(I)Z"⟩
abbrev cX1_leastTaking : ByteArray := prog_3_method_9_code
def yX1_leastTaking : MethodName := ⟨RX1, "leastTaking", "(I)I"⟩
abbrev cX1_seesTaken : ByteArray := prog_3_method_10_code
def yX1_seesTaken : MethodName := ⟨RX1, "seesTaken", "(IIIIIZ)Z"⟩
abbrev cX1_seesLost : ByteArray := prog_3_method_11_code
def yX1_seesLost : MethodName := ⟨RX1, "seesLost", "(IIIIIZ)Z"⟩
def RX2 : String := "BorrowedHours$Game"
def TX2 : u_T := fun k => match k with
  | 0 => ("BorrowedHours$Game", "end", "I", false)
  | 1 => ("BorrowedHours$Game", "loan", "I", false)
  | 2 => ("BorrowedHours$Game", "pays", "I", false)
  | 3 => ("BorrowedHours$Game", "tie", "I", false)
  | 4 => ("BorrowedHours$Game", "hand", "I", false)
  | 5 => ("BorrowedHours$Game", "first", "I", false)
  | 6 => ("BorrowedHours$Game", "rounds", "I", false)
  | 7 => ("BorrowedHours$Game", "clock", "I", false)
  | 8 => ("BorrowedHours$Game", "zero", "LBorrowedHours$Side;", true)
  | _ => ("BorrowedHours$Game", "one", "LBorrowedHours$Side;", true)
def tyX2 : Nat → FieldType := fun k => match k with
  | 0 => .int
  | 1 => .int
  | 2 => .int
  | 3 => .int
  | 4 => .int
  | 5 => .int
  | 6 => .int
  | 7 => .int
  | 8 => .object "BorrowedHours$Side"
  | _ => .object "BorrowedHours$Side"
theorem nmX2 : ∀ a, a < 10 → ∀ b, b < 10 → a ≠ b → (TX2 a).2.1 ≠ (TX2 b).2.1 := by decide +kernel
theorem tyX2_ok : ∀ k, k < 10 → parseFieldDescriptor (TX2 k).2.2.1 = some (tyX2 k) := by decide +kernel
abbrev cX2_init : ByteArray := prog_4_method_1_code
def yX2_init : MethodName := ⟨RX2, "<init>", "()V"⟩
abbrev cX2_copyFrom : ByteArray := prog_4_method_2_code
def yX2_copyFrom : MethodName := ⟨RX2, "copyFrom", "(LBorrowedHours$Game;)V"⟩
abbrev cX2_settingOf : ByteArray := prog_4_method_3_code
def yX2_settingOf : MethodName := ⟨RX2, "settingOf", "(I)I"⟩
abbrev cX2_changeSetting : ByteArray := prog_4_method_4_code
def yX2_changeSetting : MethodName := ⟨RX2, "changeSetting", "(II)V"⟩
abbrev cX2_startAnew : ByteArray := prog_4_method_5_code
def yX2_startAnew : MethodName := ⟨RX2, "startAnew", "()V"⟩
abbrev cX2_sideOf : ByteArray := prog_4_method_6_code
def yX2_sideOf : MethodName := ⟨RX2, "sideOf", "(I)LBorrowedHours$Side;"⟩
abbrev cX2_winner : ByteArray := prog_4_method_7_code
def yX2_winner : MethodName := ⟨RX2, "winner", "()I"⟩
abbrev cX2_isOver : ByteArray := prog_4_method_8_code
def yX2_isOver : MethodName := ⟨RX2, "isOver", "()Z"⟩
abbrev cX2_mostOf : ByteArray := prog_4_method_9_code
def yX2_mostOf : MethodName := ⟨RX2, "mostOf", "(I)I"⟩
abbrev cX2_toWin : ByteArray := prog_4_method_10_code
def yX2_toWin : MethodName := ⟨RX2, "toWin", "(I)I"⟩
abbrev cX2_gainOf : ByteArray := prog_4_method_11_code
def yX2_gainOf : MethodName := ⟨RX2, "gainOf", "(I)I"⟩
abbrev cX2_takerOf : ByteArray := prog_4_method_12_code
def yX2_takerOf : MethodName := ⟨RX2, "takerOf", "(II)I"⟩
abbrev cX2_allows : ByteArray := prog_4_method_13_code
def yX2_allows : MethodName := ⟨RX2, "allows", "(II)Z"⟩
abbrev cX2_playRound : ByteArray := prog_4_method_14_code
def yX2_playRound : MethodName := ⟨RX2, "playRound", "(II)I"⟩
def RX3 : String := "BorrowedHours$History"
def TX3 : u_T := fun k => match k with
  | 0 => ("BorrowedHours$History", "states", "[LBorrowedHours$Game;", true)
  | _ => ("BorrowedHours$History", "size", "I", false)
def tyX3 : Nat → FieldType := fun k => match k with
  | 0 => .array (.object "BorrowedHours$Game")
  | _ => .int
theorem nmX3 : ∀ a, a < 2 → ∀ b, b < 2 → a ≠ b → (TX3 a).2.1 ≠ (TX3 b).2.1 := by decide +kernel
theorem tyX3_ok : ∀ k, k < 2 → parseFieldDescriptor (TX3 k).2.2.1 = some (tyX3 k) := by decide +kernel
abbrev cX3_init : ByteArray := prog_5_method_1_code
def yX3_init : MethodName := ⟨RX3, "<init>", "()V"⟩
abbrev cX3_keepState : ByteArray := prog_5_method_2_code
def yX3_keepState : MethodName := ⟨RX3, "keepState", "(LBorrowedHours$Game;)V"⟩
abbrev cX3_dropOldest : ByteArray := prog_5_method_3_code
def yX3_dropOldest : MethodName := ⟨RX3, "dropOldest", "()V"⟩
abbrev cX3_takeBack : ByteArray := prog_5_method_4_code
def yX3_takeBack : MethodName := ⟨RX3, "takeBack", "(LBorrowedHours$Game;)V"⟩
def RX4 : String := "BorrowedHours$Memory"
def TX4 : u_T := fun k => match k with
  | _ => ("BorrowedHours$Memory", "tables", "[LBorrowedHours$Times;", true)
def tyX4 : Nat → FieldType := fun k => match k with
  | _ => .array (.object "BorrowedHours$Times")
theorem nmX4 : ∀ a, a < 1 → ∀ b, b < 1 → a ≠ b → (TX4 a).2.1 ≠ (TX4 b).2.1 := by decide +kernel
theorem tyX4_ok : ∀ k, k < 1 → parseFieldDescriptor (TX4 k).2.2.1 = some (tyX4 k) := by decide +kernel
abbrev cX4_init : ByteArray := prog_6_method_1_code
def yX4_init : MethodName := ⟨RX4, "<init>", "()V"⟩
abbrev cX4_tableFor : ByteArray := prog_6_method_2_code
def yX4_tableFor : MethodName := ⟨RX4, "tableFor", "(LBorrowedHours$Game;I)LBorrowedHours$Times;"⟩
def RX5 : String := "BorrowedHours$Pad"
def TX5 : u_T := fun k => match k with
  | 0 => ("BorrowedHours$Pad", "signs", "[I", true)
  | _ => ("BorrowedHours$Pad", "length", "I", false)
def tyX5 : Nat → FieldType := fun k => match k with
  | 0 => .array .int
  | _ => .int
theorem nmX5 : ∀ a, a < 2 → ∀ b, b < 2 → a ≠ b → (TX5 a).2.1 ≠ (TX5 b).2.1 := by decide +kernel
theorem tyX5_ok : ∀ k, k < 2 → parseFieldDescriptor (TX5 k).2.2.1 = some (tyX5 k) := by decide +kernel
abbrev cX5_init : ByteArray := prog_7_method_1_code
def yX5_init : MethodName := ⟨RX5, "<init>", "()V"⟩
abbrev cX5_countSigns : ByteArray := prog_7_method_2_code
def yX5_countSigns : MethodName := ⟨RX5, "countSigns", "(J)I"⟩
abbrev cX5_append : ByteArray := prog_7_method_3_code
def yX5_append : MethodName := ⟨RX5, "append", "(JI)V"⟩
abbrev cX5_clear : ByteArray := prog_7_method_4_code
def yX5_clear : MethodName := ⟨RX5, "clear", "()V"⟩
abbrev cX5_signAt : ByteArray := prog_7_method_5_code
def yX5_signAt : MethodName := ⟨RX5, "signAt", "(I)I"⟩
abbrev cX5_firstFault : ByteArray := prog_7_method_6_code
def yX5_firstFault : MethodName := ⟨RX5, "firstFault", "()I"⟩
abbrev cX5_canStandAsDigit : ByteArray := prog_7_method_7_code
def yX5_canStandAsDigit : MethodName := ⟨RX5, "canStandAsDigit", "(II)Z"⟩
def RX6 : String := "BorrowedHours$Side"
def TX6 : u_T := fun k => match k with
  | 0 => ("BorrowedHours$Side", "began", "I", false)
  | 1 => ("BorrowedHours$Side", "hours", "I", false)
  | 2 => ("BorrowedHours$Side", "paid", "I", false)
  | 3 => ("BorrowedHours$Side", "took", "I", false)
  | _ => ("BorrowedHours$Side", "won", "I", false)
def tyX6 : Nat → FieldType := fun k => match k with
  | 0 => .int
  | 1 => .int
  | 2 => .int
  | 3 => .int
  | _ => .int
theorem nmX6 : ∀ a, a < 5 → ∀ b, b < 5 → a ≠ b → (TX6 a).2.1 ≠ (TX6 b).2.1 := by decide +kernel
theorem tyX6_ok : ∀ k, k < 5 → parseFieldDescriptor (TX6 k).2.2.1 = some (tyX6 k) := by decide +kernel
abbrev cX6_init : ByteArray := prog_8_method_1_code
def yX6_init : MethodName := ⟨RX6, "<init>", "()V"⟩
abbrev cX6_copyFrom : ByteArray := prog_8_method_2_code
def yX6_copyFrom : MethodName := ⟨RX6, "copyFrom", "(LBorrowedHours$Side;)V"⟩
abbrev cX6_startAnew : ByteArray := prog_8_method_3_code
def yX6_startAnew : MethodName := ⟨RX6, "startAnew", "()V"⟩
def RX7 : String := "BorrowedHours$Slot"
def TX7 : u_T := fun k => match k with
  | 0 => ("BorrowedHours$Slot", "saved", "LBorrowedHours$Game;", true)
  | _ => ("BorrowedHours$Slot", "filled", "Z", false)
def tyX7 : Nat → FieldType := fun k => match k with
  | 0 => .object "BorrowedHours$Game"
  | _ => .boolean
theorem nmX7 : ∀ a, a < 2 → ∀ b, b < 2 → a ≠ b → (TX7 a).2.1 ≠ (TX7 b).2.1 := by decide +kernel
theorem tyX7_ok : ∀ k, k < 2 → parseFieldDescriptor (TX7 k).2.2.1 = some (tyX7 k) := by decide +kernel
abbrev cX7_init : ByteArray := prog_9_method_1_code
def yX7_init : MethodName := ⟨RX7, "<init>", "()V"⟩
def RX8 : String := "BorrowedHours$Times"
def TX8 : u_T := fun k => match k with
  | 0 => ("BorrowedHours$Times", "end", "I", true)
  | 1 => ("BorrowedHours$Times", "tie", "I", true)
  | 2 => ("BorrowedHours$Times", "sumStays", "Z", true)
  | 3 => ("BorrowedHours$Times", "top", "I", true)
  | 4 => ("BorrowedHours$Times", "owns", "[I", true)
  | 5 => ("BorrowedHours$Times", "foes", "[I", true)
  | _ => ("BorrowedHours$Times", "times", "[I", true)
def tyX8 : Nat → FieldType := fun k => match k with
  | 0 => .int
  | 1 => .int
  | 2 => .boolean
  | 3 => .int
  | 4 => .array .int
  | 5 => .array .int
  | _ => .array .int
theorem nmX8 : ∀ a, a < 7 → ∀ b, b < 7 → a ≠ b → (TX8 a).2.1 ≠ (TX8 b).2.1 := by decide +kernel
theorem tyX8_ok : ∀ k, k < 7 → parseFieldDescriptor (TX8 k).2.2.1 = some (tyX8 k) := by decide +kernel
abbrev cX8_init : ByteArray := prog_10_method_1_code
def yX8_init : MethodName := ⟨RX8, "<init>", "(IIZI)V"⟩
abbrev cX8_timeAt : ByteArray := prog_10_method_2_code
def yX8_timeAt : MethodName := ⟨RX8, "timeAt", "(IIIZ)I"⟩
abbrev cX8_learnAll : ByteArray := prog_10_method_3_code
def yX8_learnAll : MethodName := ⟨RX8, "learnAll", "()V"⟩
abbrev cX8_learnRounds : ByteArray := prog_10_method_4_code
def yX8_learnRounds : MethodName := ⟨RX8, "learnRounds", "(I)Z"⟩
abbrev cX8_bidForces : ByteArray := prog_10_method_5_code
def yX8_bidForces : MethodName := ⟨RX8, "bidForces", "(IIII)Z"⟩
abbrev cX8_answerForces : ByteArray := prog_10_method_6_code
def yX8_answerForces : MethodName := ⟨RX8, "answerForces", "(IIII)Z"⟩
abbrev cX8_neverTakes : ByteArray := prog_10_method_7_code
def yX8_neverTakes : MethodName := ⟨RX8, "neverTakes", "(I)Z"⟩
abbrev cX8_taken : ByteArray := prog_10_method_8_code
def yX8_taken : MethodName := ⟨RX8, "taken", "(IIIIIZ)Z"⟩
abbrev cX8_lost : ByteArray := prog_10_method_9_code
def yX8_lost : MethodName := ⟨RX8, "lost", "(IIIIIZ)Z"⟩
def RX9 : String := "BorrowedHours"
def TX9 : u_T := fun k => match k with
  | 0 => ("BorrowedHours", "game", "LBorrowedHours$Game;", true)
  | 1 => ("BorrowedHours", "history", "LBorrowedHours$History;", true)
  | 2 => ("BorrowedHours", "slotZero", "LBorrowedHours$Slot;", true)
  | 3 => ("BorrowedHours", "slotOne", "LBorrowedHours$Slot;", true)
  | 4 => ("BorrowedHours", "pad", "LBorrowedHours$Pad;", true)
  | 5 => ("BorrowedHours", "memory", "LBorrowedHours$Memory;", true)
  | 6 => ("BorrowedHours", "advice", "LBorrowedHours$Advice;", true)
  | _ => ("BorrowedHours", "foresight", "LBorrowedHours$Foresight;", true)
def tyX9 : Nat → FieldType := fun k => match k with
  | 0 => .object "BorrowedHours$Game"
  | 1 => .object "BorrowedHours$History"
  | 2 => .object "BorrowedHours$Slot"
  | 3 => .object "BorrowedHours$Slot"
  | 4 => .object "BorrowedHours$Pad"
  | 5 => .object "BorrowedHours$Memory"
  | 6 => .object "BorrowedHours$Advice"
  | _ => .object "BorrowedHours$Foresight"
theorem nmX9 : ∀ a, a < 8 → ∀ b, b < 8 → a ≠ b → (TX9 a).2.1 ≠ (TX9 b).2.1 := by decide +kernel
theorem tyX9_ok : ∀ k, k < 8 → parseFieldDescriptor (TX9 k).2.2.1 = some (tyX9 k) := by decide +kernel
abbrev cX9_init : ByteArray := prog_1_method_1_code
def yX9_init : MethodName := ⟨RX9, "<init>", "()V"⟩
abbrev cX9_set : ByteArray := prog_1_method_2_code
def yX9_set : MethodName := ⟨RX9, "set", "(II)I"⟩
abbrev cX9_begin : ByteArray := prog_1_method_3_code
def yX9_begin : MethodName := ⟨RX9, "begin", "(II)I"⟩
abbrev cX9_round : ByteArray := prog_1_method_4_code
def yX9_round : MethodName := ⟨RX9, "round", "(II)I"⟩
abbrev cX9_play : ByteArray := prog_1_method_5_code
def yX9_play : MethodName := ⟨RX9, "play", "()I"⟩
abbrev cX9_run : ByteArray := prog_1_method_6_code
def yX9_run : MethodName := ⟨RX9, "run", "()I"⟩
abbrev cX9_player : ByteArray := prog_1_method_7_code
def yX9_player : MethodName := ⟨RX9, "player", "(II)I"⟩
abbrev cX9_count : ByteArray := prog_1_method_8_code
def yX9_count : MethodName := ⟨RX9, "count", "(I)I"⟩
abbrev cX9_forced : ByteArray := prog_1_method_9_code
def yX9_forced : MethodName := ⟨RX9, "forced", "(II)I"⟩
abbrev cX9_ahead : ByteArray := prog_1_method_10_code
def yX9_ahead : MethodName := ⟨RX9, "ahead", "(II)I"⟩
abbrev cX9_bestBid : ByteArray := prog_1_method_11_code
def yX9_bestBid : MethodName := ⟨RX9, "bestBid", "()I"⟩
abbrev cX9_bestAnswer : ByteArray := prog_1_method_12_code
def yX9_bestAnswer : MethodName := ⟨RX9, "bestAnswer", "(I)I"⟩
abbrev cX9_keeps : ByteArray := prog_1_method_13_code
def yX9_keeps : MethodName := ⟨RX9, "keeps", "()I"⟩
abbrev cX9_leastHours : ByteArray := prog_1_method_14_code
def yX9_leastHours : MethodName := ⟨RX9, "leastHours", "(I)I"⟩
abbrev cX9_put : ByteArray := prog_1_method_15_code
def yX9_put : MethodName := ⟨RX9, "put", "(J)I"⟩
abbrev cX9_wipe : ByteArray := prog_1_method_16_code
def yX9_wipe : MethodName := ⟨RX9, "wipe", "()I"⟩
abbrev cX9_fault : ByteArray := prog_1_method_17_code
def yX9_fault : MethodName := ⟨RX9, "fault", "()I"⟩
abbrev cX9_undo : ByteArray := prog_1_method_18_code
def yX9_undo : MethodName := ⟨RX9, "undo", "()I"⟩
abbrev cX9_save : ByteArray := prog_1_method_19_code
def yX9_save : MethodName := ⟨RX9, "save", "(I)I"⟩
abbrev cX9_restore : ByteArray := prog_1_method_20_code
def yX9_restore : MethodName := ⟨RX9, "restore", "(I)I"⟩
abbrev cX9_isBetween : ByteArray := prog_1_method_21_code
def yX9_isBetween : MethodName := ⟨RX9, "isBetween", "(III)Z"⟩
abbrev cX9_isPlayer : ByteArray := prog_1_method_22_code
def yX9_isPlayer : MethodName := ⟨RX9, "isPlayer", "(I)Z"⟩
abbrev cX9_isSlot : ByteArray := prog_1_method_23_code
def yX9_isSlot : MethodName := ⟨RX9, "isSlot", "(I)Z"⟩
abbrev cX9_isSetting : ByteArray := prog_1_method_24_code
def yX9_isSetting : MethodName := ⟨RX9, "isSetting", "(I)Z"⟩
abbrev cX9_leastSetting : ByteArray := prog_1_method_25_code
def yX9_leastSetting : MethodName := ⟨RX9, "leastSetting", "(I)I"⟩
abbrev cX9_mostSetting : ByteArray := prog_1_method_26_code
def yX9_mostSetting : MethodName := ⟨RX9, "mostSetting", "(I)I"⟩
abbrev cX9_slotOf : ByteArray := prog_1_method_27_code
def yX9_slotOf : MethodName := ⟨RX9, "slotOf", "(I)LBorrowedHours$Slot;"⟩
abbrev cX9_timeWith : ByteArray := prog_1_method_28_code
def yX9_timeWith : MethodName := ⟨RX9, "timeWith", "(II)I"⟩
abbrev cX9_timesNow : ByteArray := prog_1_method_29_code
def yX9_timesNow : MethodName := ⟨RX9, "timesNow", "()LBorrowedHours$Times;"⟩
abbrev cX9_playPad : ByteArray := prog_1_method_30_code
def yX9_playPad : MethodName := ⟨RX9, "playPad", "()I"⟩
def RX10 : String := "BorrowedHoursModel"
def TX10 : u_T := fun k => match k with
  | 0 => ("BorrowedHoursModel", "all", "[I", true)
  | 1 => ("BorrowedHoursModel", "history", "[I", true)
  | 2 => ("BorrowedHoursModel", "historyLong", "I", false)
  | 3 => ("BorrowedHoursModel", "slots", "[I", true)
  | 4 => ("BorrowedHoursModel", "isSaved", "[I", true)
  | 5 => ("BorrowedHoursModel", "times", "[I", true)
  | 6 => ("BorrowedHoursModel", "isKnown", "I", false)
  | 7 => ("BorrowedHoursModel", "knownRules", "I", false)
  | 8 => ("BorrowedHoursModel", "knownSum", "I", false)
  | 9 => ("BorrowedHoursModel", "text", "[I", true)
  | 10 => ("BorrowedHoursModel", "textLong", "I", false)
  | 11 => ("BorrowedHoursModel", "spot", "I", false)
  | 12 => ("BorrowedHoursModel", "number", "I", false)
  | 13 => ("BorrowedHoursModel", "told", "[I", true)
  | _ => ("BorrowedHoursModel", "read", "I", false)
def tyX10 : Nat → FieldType := fun k => match k with
  | 0 => .array .int
  | 1 => .array .int
  | 2 => .int
  | 3 => .array .int
  | 4 => .array .int
  | 5 => .array .int
  | 6 => .int
  | 7 => .int
  | 8 => .int
  | 9 => .array .int
  | 10 => .int
  | 11 => .int
  | 12 => .int
  | 13 => .array .int
  | _ => .int
theorem nmX10 : ∀ a, a < 15 → ∀ b, b < 15 → a ≠ b → (TX10 a).2.1 ≠ (TX10 b).2.1 := by decide +kernel
theorem tyX10_ok : ∀ k, k < 15 → parseFieldDescriptor (TX10 k).2.2.1 = some (tyX10 k) := by decide +kernel
abbrev cX10_init : ByteArray := prog_12_method_1_code
def yX10_init : MethodName := ⟨RX10, "<init>", "()V"⟩
abbrev cX10_in : ByteArray := prog_12_method_3_code
def yX10_in : MethodName := ⟨RX10, "in", "(JJJ)Z"⟩
abbrev cX10_changes : ByteArray := prog_12_method_4_code
def yX10_changes : MethodName := ⟨RX10, "changes", "()V"⟩
abbrev cX10_newGame : ByteArray := prog_12_method_5_code
def yX10_newGame : MethodName := ⟨RX10, "newGame", "()V"⟩
abbrev cX10_isPlayer : ByteArray := prog_12_method_6_code
def yX10_isPlayer : MethodName := ⟨RX10, "isPlayer", "(I)Z"⟩
abbrev cX10_winnerAt : ByteArray := prog_12_method_7_code
def yX10_winnerAt : MethodName := ⟨RX10, "winnerAt", "(I)I"⟩
abbrev cX10_isOver : ByteArray := prog_12_method_8_code
def yX10_isOver : MethodName := ⟨RX10, "isOver", "()Z"⟩
abbrev cX10_most : ByteArray := prog_12_method_9_code
def yX10_most : MethodName := ⟨RX10, "most", "(I)I"⟩
abbrev cX10_taker : ByteArray := prog_12_method_10_code
def yX10_taker : MethodName := ⟨RX10, "taker", "(III)I"⟩
abbrev cX10_plays : ByteArray := prog_12_method_11_code
def yX10_plays : MethodName := ⟨RX10, "plays", "(II)I"⟩
abbrev cX10_canPlay : ByteArray := prog_12_method_12_code
def yX10_canPlay : MethodName := ⟨RX10, "canPlay", "(II)Z"⟩
abbrev cX10_at : ByteArray := prog_12_method_13_code
def yX10_at : MethodName := ⟨RX10, "at", "(IIIII)I"⟩
abbrev cX10_behind : ByteArray := prog_12_method_14_code
def yX10_behind : MethodName := ⟨RX10, "behind", "(IIIIIII)I"⟩
abbrev cX10_canForce : ByteArray := prog_12_method_15_code
def yX10_canForce : MethodName := ⟨RX10, "canForce", "(IIIIII)Z"⟩
abbrev cX10_lowest : ByteArray := prog_12_method_16_code
def yX10_lowest : MethodName := ⟨RX10, "lowest", "()I"⟩
abbrev cX10_worksOut : ByteArray := prog_12_method_17_code
def yX10_worksOut : MethodName := ⟨RX10, "worksOut", "(III)V"⟩
abbrev cX10_worksOutAll : ByteArray := prog_12_method_18_code
def yX10_worksOutAll : MethodName := ⟨RX10, "worksOutAll", "(II)V"⟩
abbrev cX10_knows : ByteArray := prog_12_method_19_code
def yX10_knows : MethodName := ⟨RX10, "knows", "(I)V"⟩
abbrev cX10_timeWith : ByteArray := prog_12_method_20_code
def yX10_timeWith : MethodName := ⟨RX10, "timeWith", "(III)I"⟩
abbrev cX10_timeOf : ByteArray := prog_12_method_21_code
def yX10_timeOf : MethodName := ⟨RX10, "timeOf", "(I)I"⟩
abbrev cX10_timeBehind : ByteArray := prog_12_method_22_code
def yX10_timeBehind : MethodName := ⟨RX10, "timeBehind", "(III)I"⟩
abbrev cX10_isSetting : ByteArray := prog_12_method_23_code
def yX10_isSetting : MethodName := ⟨RX10, "isSetting", "(II)Z"⟩
abbrev cX10_set : ByteArray := prog_12_method_24_code
def yX10_set : MethodName := ⟨RX10, "set", "(II)I"⟩
abbrev cX10_begin : ByteArray := prog_12_method_25_code
def yX10_begin : MethodName := ⟨RX10, "begin", "(II)I"⟩
abbrev cX10_round : ByteArray := prog_12_method_26_code
def yX10_round : MethodName := ⟨RX10, "round", "(II)I"⟩
abbrev cX10_play : ByteArray := prog_12_method_27_code
def yX10_play : MethodName := ⟨RX10, "play", "()I"⟩
abbrev cX10_player : ByteArray := prog_12_method_28_code
def yX10_player : MethodName := ⟨RX10, "player", "(II)I"⟩
abbrev cX10_count : ByteArray := prog_12_method_29_code
def yX10_count : MethodName := ⟨RX10, "count", "(I)I"⟩
abbrev cX10_forced : ByteArray := prog_12_method_30_code
def yX10_forced : MethodName := ⟨RX10, "forced", "(II)I"⟩
abbrev cX10_ahead : ByteArray := prog_12_method_31_code
def yX10_ahead : MethodName := ⟨RX10, "ahead", "(II)I"⟩
abbrev cX10_worstBehind : ByteArray := prog_12_method_32_code
def yX10_worstBehind : MethodName := ⟨RX10, "worstBehind", "(I)I"⟩
abbrev cX10_othersBehind : ByteArray := prog_12_method_33_code
def yX10_othersBehind : MethodName := ⟨RX10, "othersBehind", "(I)I"⟩
abbrev cX10_bestBid : ByteArray := prog_12_method_34_code
def yX10_bestBid : MethodName := ⟨RX10, "bestBid", "()I"⟩
abbrev cX10_bestAnswer : ByteArray := prog_12_method_35_code
def yX10_bestAnswer : MethodName := ⟨RX10, "bestAnswer", "(I)I"⟩
abbrev cX10_answerTo : ByteArray := prog_12_method_36_code
def yX10_answerTo : MethodName := ⟨RX10, "answerTo", "(I)I"⟩
abbrev cX10_keeps : ByteArray := prog_12_method_37_code
def yX10_keeps : MethodName := ⟨RX10, "keeps", "()I"⟩
abbrev cX10_leastHours : ByteArray := prog_12_method_38_code
def yX10_leastHours : MethodName := ⟨RX10, "leastHours", "(I)I"⟩
abbrev cX10_charactersOf : ByteArray := prog_12_method_39_code
def yX10_charactersOf : MethodName := ⟨RX10, "charactersOf", "(J)I"⟩
abbrev cX10_put : ByteArray := prog_12_method_40_code
def yX10_put : MethodName := ⟨RX10, "put", "(J)I"⟩
abbrev cX10_wipe : ByteArray := prog_12_method_41_code
def yX10_wipe : MethodName := ⟨RX10, "wipe", "()I"⟩
abbrev cX10_isHere : ByteArray := prog_12_method_42_code
def yX10_isHere : MethodName := ⟨RX10, "isHere", "(II)Z"⟩
abbrev cX10_takesOne : ByteArray := prog_12_method_43_code
def yX10_takesOne : MethodName := ⟨RX10, "takesOne", "(I)Z"⟩
abbrev cX10_readsBid : ByteArray := prog_12_method_44_code
def yX10_readsBid : MethodName := ⟨RX10, "readsBid", "()Z"⟩
abbrev cX10_readsRound : ByteArray := prog_12_method_45_code
def yX10_readsRound : MethodName := ⟨RX10, "readsRound", "()Z"⟩
abbrev cX10_fault : ByteArray := prog_12_method_46_code
def yX10_fault : MethodName := ⟨RX10, "fault", "()I"⟩
abbrev cX10_run : ByteArray := prog_12_method_47_code
def yX10_run : MethodName := ⟨RX10, "run", "()I"⟩
abbrev cX10_undo : ByteArray := prog_12_method_48_code
def yX10_undo : MethodName := ⟨RX10, "undo", "()I"⟩
abbrev cX10_save : ByteArray := prog_12_method_49_code
def yX10_save : MethodName := ⟨RX10, "save", "(I)I"⟩
abbrev cX10_restore : ByteArray := prog_12_method_50_code
def yX10_restore : MethodName := ⟨RX10, "restore", "(I)I"⟩
def RL : String := "BorrowedHoursLaw"
abbrev cL_law : ByteArray := code
def yL_law : MethodName := ⟨RL, "law", "([I)Z"⟩
abbrev vwCl : List vw_C := [(RX0, TX0, 1), (RX1, TX1, 1), (RX2, TX2, 10), (RX3, TX3, 2), (RX4, TX4, 1), (RX5, TX5, 2), (RX6, TX6, 5), (RX7, TX7, 2), (RX8, TX8, 7), (RX9, TX9, 8), (RX10, TX10, 15)]
end
section
/-! 02.core: the pool (address -> content), the bundled judgement Jd, contracts Ct, a row an instruction -/
/-- the words that every contract here asks for: the good ones of the tables -/
def wsU : List Cond := lw_tbl.filter goodWord
abbrev pE : Type := (Nat × List Value) ⊕ ((Nat × (Nat → Int32)) ⊕ (Nat × Nat × (Nat → Option Nat)))
abbrev oO (ci : Nat) (fs : List Value) : pE := .inl (ci, fs)
abbrev oI (n : Nat) (f : Nat → Int32) : pE := .inr (.inl (n, f))
abbrev oQ (k n : Nat) (f : Nat → Option Nat) : pE := .inr (.inr (k, n, f))
abbrev qC : Type := ClassId × ClassId × ClassId
def qk (q : qC) (k : Nat) : ClassId := if k = 0 then q.2.1 else q.2.2
def pcv (q : qC) : pE → va_E
  | .inl o => .inr o
  | .inr (.inl a) => .inl (q.1, a.1, .inl a.2)
  | .inr (.inr a) => .inl (qk q a.1, a.2.1, .inr (.inr (.inr (.inr a.2.2))))
abbrev pS : Type := Nat → Option pE
def pu (S : pS) (a : Nat) (e : pE) : pS := fun x => if x = a then some e else S x
theorem pu_self (S : pS) (a : Nat) (e : pE) : pu S a e a = some e := if_pos rfl
theorem pu_ne (S : pS) {a b : Nat} (e : pE) (h : b ≠ a) : pu S a e b = S b := if_neg h
def tyQ (q : qC) : List (ClassId × FieldType) := [(q.1, .int), (q.2.1, .object "BorrowedHours$Game"), (q.2.2, .object "BorrowedHours$Times")]
def nestL : List (String × Nat × MethodName × String) := [("BorrowedHours", 11, ⟨"BorrowedHours$Game", "<init>", "()V"⟩, "BorrowedHours"), ("BorrowedHours$Game", 17, ⟨"BorrowedHours$Side", "<init>", "()V"⟩, "BorrowedHours"), ("BorrowedHours", 18, ⟨"BorrowedHours$History", "<init>", "()V"⟩, "BorrowedHours"), ("BorrowedHours", 25, ⟨"BorrowedHours$Slot", "<init>", "()V"⟩, "BorrowedHours"), ("BorrowedHours$Slot", 9, ⟨"BorrowedHours$Game", "<init>", "()V"⟩, "BorrowedHours"), ("BorrowedHours", 35, ⟨"BorrowedHours$Pad", "<init>", "()V"⟩, "BorrowedHours"), ("BorrowedHours", 42, ⟨"BorrowedHours$Memory", "<init>", "()V"⟩, "BorrowedHours"), ("BorrowedHours$History", 24, ⟨"BorrowedHours$Game", "<init>", "()V"⟩, "BorrowedHours")]
def KK (D : va_G) (q : qC) (s : State) : Prop := va_K D vwCl (tyQ q) s ∧ va_AO "BorrowedHours$Game" s ∧ va_AO "BorrowedHours$Times" s ∧ ∀ z ∈ nestL, va_Nw (.methodLinkNest z.1 z.2.1 z.2.2.1 z.2.2.2) s
theorem KK.warm {D : va_G} {q : qC} {s U : State} (hW : s.WarmedH U.vm) (h : KK D q s) : KK D q U := ⟨va_K.moved hW.alike h.1, va_AO.moved hW.alike h.2.1, va_AO.moved hW.alike h.2.2.1, fun z hz => va_Nw.warmM hW (h.2.2.2 z hz)⟩
theorem KK.same {D : va_G} {q : qC} {u U : State} (e : u.vm = U.vm) (h : KK D q u) : KK D q U := ⟨va_K.moved (by rw [← e]; exact Vm.Alike.refl _) h.1, va_AO.moved (by rw [← e]; exact Vm.Alike.refl _) h.2.1, va_AO.moved (by rw [← e]; exact Vm.Alike.refl _) h.2.2.1, fun z hz => va_Nw.same rfl e (h.2.2.2 z hz)⟩
def pH (D : va_G) (q : qC) (A : Nat → Prop) (S : pS) (H : Heap) : Prop :=
  ∃ (L : List Nat) (f : Nat → va_E), (∀ a e, S a = some e → a ∈ L ∧ f a = pcv q e) ∧ (∀ a, a ∈ L → ∃ e, S a = some e) ∧ va_P D vwCl (va_pl L f) H ∧ va_D A (va_pl L f)
theorem pl_mem {L : List Nat} {f : Nat → va_E} {k : Nat} {x : Nat × va_E} (h : (va_pl L f)[k]? = some x) : x.1 ∈ L ∧ x.2 = f x.1 := by
  unfold va_pl at h
  rw [List.getElem?_map] at h
  cases hl : L[k]? with
  | none => rw [hl] at h; cases h
  | some a => rw [hl] at h; cases h; exact ⟨List.mem_of_getElem? hl, rfl⟩
theorem pH.weaken {D : va_G} {q : qC} {A B : Nat → Prop} {S : pS} {H : Heap} (h : pH D q A S H) (hB : ∀ a e, S a = some e → A a → B a) : pH D q B S H := by
  obtain ⟨L, f, h1, h2, h3, h4⟩ := h
  refine ⟨L, f, h1, h2, h3, h4.weaken (fun k x hk hA => ?_)⟩
  obtain ⟨e, he⟩ := h2 x.1 (pl_mem hk).1
  exact hB x.1 e he hA
theorem pH.inA {D : va_G} {q : qC} {A : Nat → Prop} {S : pS} {H : Heap} (h : pH D q A S H) {a : Nat} {e : pE} (ha : S a = some e) : A a := by
  obtain ⟨L, f, h1, h2, h3, h4⟩ := h
  obtain ⟨k, hk⟩ := va_pl_get (X := []) (f := f) (h1 a e ha).1
  exact h4.2 k _ hk
theorem pH.lt {D : va_G} {q : qC} {A : Nat → Prop} {S : pS} {H : Heap} (h : pH D q A S H) {a : Nat} {e : pE} (ha : S a = some e) : a < H.size := by
  obtain ⟨L, f, h1, h2, h3, h4⟩ := h
  obtain ⟨k, hk⟩ := va_pl_get (X := []) (f := f) (h1 a e ha).1
  exact (h3 k _ hk).lt
theorem pH.at {D : va_G} {q : qC} {A : Nat → Prop} {S : pS} {H : Heap} (h : pH D q A S H) {a : Nat} {e : pE} (ha : S a = some e) :
    ∃ (L : List Nat) (f : Nat → va_E) (k : Nat), va_P D vwCl (va_pl L f) H ∧ va_D A (va_pl L f) ∧ (va_pl L f)[k]? = some (a, pcv q e) ∧
      (∀ (e' : pE) (H1 : Heap), va_P D vwCl ((va_pl L f).set k (a, pcv q e')) H1 → va_D A ((va_pl L f).set k (a, pcv q e')) → pH D q A (pu S a e') H1) ∧ ∀ (b : Nat) (x : pE), S b = some x → ∃ k2 : Nat, (va_pl L f)[k2]? = some (b, pcv q x) := by
  obtain ⟨L, f, h1, h2, h3, h4⟩ := h
  obtain ⟨hL, hf⟩ := h1 a e ha
  obtain ⟨k, hk⟩ := va_pl_get (X := []) (f := f) hL
  have hk : (va_pl L f)[k]? = some (a, f a) := hk
  refine ⟨L, f, k, h3, h4, by rw [hk, hf], fun e' H1 g3 g4 => ?_, fun b x hb => ?_⟩
  rotate_left
  · obtain ⟨hL2, hf2⟩ := h1 b x hb
    obtain ⟨k2, hk2⟩ := va_pl_get (X := []) (f := f) hL2
    exact ⟨k2, by rw [← hf2]; exact hk2⟩
  have hs : (va_pl L f).set k (a, pcv q e') = va_pl L (va_up f a (pcv q e')) := va_pl_set (X := []) h4 hL hk
  rw [hs] at g3 g4
  refine ⟨L, va_up f a (pcv q e'), fun b x hb => ?_, fun b hb => ?_, g3, g4⟩
  · by_cases hba : b = a
    · subst hba
      rw [pu_self] at hb
      cases hb
      exact ⟨hL, va_up_self _ _ _⟩
    · rw [pu_ne _ _ hba] at hb
      rw [va_up_ne _ _ hba]
      exact h1 b x hb
  · by_cases hba : b = a
    · subst hba
      exact ⟨_, pu_self _ _ _⟩
    · obtain ⟨x, hx⟩ := h2 b hb
      exact ⟨x, by rw [pu_ne _ _ hba]; exact hx⟩
theorem pH.new {D : va_G} {q : qC} {A : Nat → Prop} {S : pS} {L : List Nat} {f : Nat → va_E} (h1 : ∀ a e, S a = some e → a ∈ L ∧ f a = pcv q e) (h2 : ∀ a, a ∈ L → ∃ e, S a = some e) {a : Nat} {e : pE} {H1 : Heap}
    (g3 : va_P D vwCl (va_pl L f ++ [(a, pcv q e)]) H1) (g4 : va_D A (va_pl L f ++ [(a, pcv q e)])) : S a = none ∧ pH D q A (pu S a e) H1 := by
  have hL : a ∉ L := va_pl_fresh2 (X := []) g4
  have hS : S a = none := by
    cases hs : S a with
    | none => rfl
    | some x => exact absurd (h1 a x hs).1 hL
  rw [va_pl_push hL] at g3 g4
  refine ⟨hS, L ++ [a], va_up f a (pcv q e), fun b x hb => ?_, fun b hb => ?_, g3, g4⟩
  · by_cases hba : b = a
    · subst hba
      rw [pu_self] at hb
      cases hb
      exact ⟨List.mem_append_right _ List.mem_cons_self, va_up_self _ _ _⟩
    · rw [pu_ne _ _ hba] at hb
      rw [va_up_ne _ _ hba]
      exact ⟨List.mem_append_left _ (h1 b x hb).1, (h1 b x hb).2⟩
  · by_cases hba : b = a
    · subst hba
      exact ⟨_, pu_self _ _ _⟩
    · have hb2 : b ∈ L := by
        rcases List.mem_append.mp hb with h | h
        · exact h
        · exact absurd (List.mem_singleton.mp h) hba
      obtain ⟨x, hx⟩ := h2 b hb2
      exact ⟨x, by rw [pu_ne _ _ hba]; exact hx⟩
/-- the locals: what is known of each place -/
def lvL (ls : Array Slot) (nL : Nat) (L : List (Option Value)) : Prop := ls.size = nL ∧ lv_wf ls ∧ ∀ (i : Nat) (v : Value), L[i]? = some (some v) → ls[i]? = some (.val v)
def lvp (L : List (Option Value)) : List (Nat × Value) := (List.range L.length).filterMap (fun i => (L[i]?.getD none).map (fun v => (i, v)))
theorem lvp_mem {L : List (Option Value)} {i : Nat} {v : Value} : (i, v) ∈ lvp L ↔ L[i]? = some (some v) := by
  unfold lvp
  rw [List.mem_filterMap]
  constructor
  · rintro ⟨j, hj, h⟩
    cases hl : L[j]? with
    | none => rw [hl] at h; cases h
    | some o =>
      cases o with
      | none => rw [hl] at h; cases h
      | some w => rw [hl] at h; cases h; exact hl
  · intro h
    exact ⟨i, List.mem_range.mpr (List.getElem?_eq_some_iff.mp h).1, by rw [h]; rfl⟩
theorem lvL.has {ls : Array Slot} {nL : Nat} {L : List (Option Value)} (h : lvL ls nL L) : lv_has ls nL (lvp L) := ⟨h.1, h.2.1, fun x hx => h.2.2 x.1 x.2 (lvp_mem.mp hx)⟩
/-- no long stands in the place ahead of i -/
def noL (L : List (Option Value)) (i : Nat) : Bool := match i with
  | 0 => true
  | j + 1 => match L[j]? with
    | some (some v) => !(v.category == 2)
    | _ => true
theorem lvL.set1 {ls : Array Slot} {nL : Nat} {L : List (Option Value)} {i : Nat} {v : Value} (hc : noL L i = true) (h : lv_has ls nL ((i, v) :: (lvp L).filter (fun q => !(q.1 == i) && !(q.1 + 1 == i && q.2.category == 2)))) : lvL ls nL (L.set i (some v)) := by
  refine ⟨h.1, h.2.1, fun j w hj => ?_⟩
  rw [List.getElem?_set] at hj
  by_cases hij : i = j
  · subst hij
    rw [if_pos rfl] at hj
    split at hj
    · cases hj
      exact h.2.2 (i, v) List.mem_cons_self
    · cases hj
  · rw [if_neg hij] at hj
    refine h.2.2 (j, w) (List.mem_cons_of_mem _ (List.mem_filter.mpr ⟨lvp_mem.mpr hj, ?_⟩))
    have h1 : (j == i) = false := by simp; omega
    have h2 : (j + 1 == i && w.category == 2) = false := by
      by_cases hji : j + 1 = i
      · subst hji
        unfold noL at hc
        simp only [hj] at hc
        simp at hc ⊢
        exact hc
      · simp [hji]
    simp [h1]
    simp at h2
    by_cases hji : j + 1 = i
    · exact Or.inr (h2 hji)
    · exact Or.inl hji
theorem lvL.set2 {ls : Array Slot} {nL : Nat} {L : List (Option Value)} {i : Nat} {v : Value} (hc : noL L i = true) (h : lv_has ls nL ((i, v) :: (lvp L).filter (fun q => !(q.1 == i) && (!(q.1 == i + 1) && !(q.1 + 1 == i && q.2.category == 2))))) : lvL ls nL ((L.set i (some v)).set (i + 1) none) := by
  refine ⟨h.1, h.2.1, fun j w hj => ?_⟩
  rw [List.getElem?_set] at hj
  by_cases hi1 : i + 1 = j
  · rw [if_pos hi1] at hj
    split at hj <;> cases hj
  · rw [if_neg hi1] at hj
    rw [List.getElem?_set] at hj
    by_cases hij : i = j
    · subst hij
      rw [if_pos rfl] at hj
      split at hj
      · cases hj
        exact h.2.2 (i, v) List.mem_cons_self
      · cases hj
    · rw [if_neg hij] at hj
      refine h.2.2 (j, w) (List.mem_cons_of_mem _ (List.mem_filter.mpr ⟨lvp_mem.mpr hj, ?_⟩))
      have h1 : (j == i) = false := by simp; omega
      have h3 : (j == i + 1) = false := by simp; omega
      have h2 : (j + 1 == i && w.category == 2) = false := by
        by_cases hji : j + 1 = i
        · subst hji
          unfold noL at hc
          simp only [hj] at hc
          simp at hc ⊢
          exact hc
        · simp [hji]
      simp [h1, h3]
      simp at h2
      by_cases hji : j + 1 = i
      · exact Or.inr (h2 hji)
      · exact Or.inl hji
def lvOf (sl : List Slot) : List (Option Value) := sl.map (fun x => match x with | .val v => some v | _ => none)
def argL (vs : List Value) (n : Nat) : List (Option Value) := lvOf (lg_sl vs ++ List.replicate (n - (lg_sl vs).length) Slot.unset)
theorem lvL.entry (vs : List Value) {n : Nat} (h : (lg_sl vs).length ≤ n) : lvL ((lg_sl vs ++ List.replicate (n - (lg_sl vs).length) Slot.unset).toArray) n (argL vs n) := by
  have he := lv_entry vs h
  refine ⟨he.1, he.2.1, fun i v hi => ?_⟩
  unfold argL lvOf at hi
  rw [List.getElem?_map] at hi
  rw [List.getElem?_toArray]
  cases hx : (lg_sl vs ++ List.replicate (n - (lg_sl vs).length) Slot.unset)[i]? with
  | none => rw [hx] at hi; cases hi
  | some sl => rw [hx] at hi; cases sl <;> cases hi; rfl
def rmJ (d c s : Nat) : Room := { frames := d, cells := c, slots := s, locals := 40 * d }
def Cx (p : Program) (R : Room) (s : State) (m : MethodId) (args : Array Value) (meth : Method) (c : Code) (D : va_G) (q : qC) (A : Nat → Prop) (y : MethodName) (cc : ByteArray) (nL : Nat) (rt : Option FieldType) (d tc ts : Nat) : Prop :=
  p.tables.exec = Jvm.exec ∧ c.code = cc ∧ c.maxLocals = nL ∧ s.vm.findClass y.cls = some m.cls ∧ (∀ w ∈ wsU, w.before args s = true) ∧ meth.sig.returnType = rt ∧ meth.locks = false ∧ (y.name = "<init>" → meth.name = "<init>") ∧ KK D q s ∧ (∀ x, s.heap.size ≤ x → A x) ∧ d ≤ R.frames ∧ 40 * d ≤ R.locals ∧ tc ≤ R.cells ∧ ts ≤ R.slots
def retI (rt : Option FieldType) (r : Option Value) (ins : Instr) : Prop := (ins = .return_ ∧ rt = none ∧ r = none) ∨ (ins = .ireturn ∧ ∃ (ty : FieldType) (v : Int32), rt = some ty ∧ r = some (.int v) ∧ narrow ty (.int v) = .int v) ∨ (ins = .areturn ∧ ∃ (n : String) (a : Nat), rt = some (.object n) ∧ r = some (.ref a))
def RetW (p : Program) (l : Launch) (e : Env) (R : Room) (s : State) (m : MethodId) (args : Array Value) (below : List Frame) (meth : Method) (c : Code) (D : va_G) (q : qC) (A : Nat → Prop) (Q : State → Prop) (cc : ByteArray) (rt : Option FieldType) (tc ts : Nat) (r : Option Value) (S' : pS) : Prop :=
  ∀ (H : Heap) (locs : List Loc) (ls : Array Slot) (pc : Nat) (ins : Instr), retI rt r ins → decode cc pc = .ok (ins, 1) → pH D q A S' H → va_S A s.heap H locs → W p l e R s m args below meth c H locs tc ts Q (F0 m pc ls r.toList)
/-- from pc, with these locals, stack and pool, c0 cells of s0 slots made so far: the method comes to its return with K -/
def Jd (y : MethodName) (cc : ByteArray) (nL : Nat) (rt : Option FieldType) (d tc ts : Nat) (K : Option Value → pS → Prop) (c0 s0 : Nat) (S : pS) (pc : Nat) (L : List (Option Value)) (st : List Value) : Prop :=
  ∀ (p : Program) (l : Launch) (e : Env) (R : Room) (s : State) (m : MethodId) (args : Array Value) (below : List Frame) (meth : Method) (c : Code) (D : va_G) (q : qC) (A : Nat → Prop) (Q : State → Prop),
    Cx p R s m args meth c D q A y cc nL rt d tc ts →
    (∀ (r : Option Value) (S' : pS), K r S' → RetW p l e R s m args below meth c D q A Q cc rt tc ts r S') →
    ∀ (H : Heap) (locs : List Loc) (ls : Array Slot), pH D q A S H → va_S A s.heap H locs → lvL ls nL L → W p l e R s m args below meth c H locs c0 s0 Q (F0 m pc ls st)
def QJ (D : va_G) (q : qC) (K : Option Value → pS → Prop) (A : Nat → Prop) : Array Value → State → Outcome → State → Prop := fun _ st oc t =>
  (∃ (r : Option Value) (S' : pS), oc = .returned r ∧ K r S' ∧ pH D q A S' t.heap) ∧ va_F A st t
def aS (S : pS) (sz : Nat) : Nat → Prop := fun x => (∃ e, S x = some e) ∨ sz ≤ x
/-- the contract of a method: room d deep, mc cells of ms slots, from the pool S to K -/
def Ct (y : MethodName) (cc : ByteArray) (nL : Nat) (rt : Option FieldType) (d mc ms : Nat) (vs : List Value) (S : pS) (K : Option Value → pS → Prop) : Prop :=
  ∀ (d' : Nat), d ≤ d' → ∀ (l : Launch) (D : va_G) (q : qC) (sz : Nat), Met l y (.code y cc nL rt :: wsU) (rmJ d' mc ms) (va_Pc vs (fun U => U.heap.size = sz ∧ pH D q (fun _ => True) S U.heap ∧ KK D q U)) (QJ D q K (aS S sz)) mc ms (aS S sz)
theorem Ct.mono {y : MethodName} {cc : ByteArray} {nL : Nat} {rt : Option FieldType} {d d2 mc ms : Nat} {vs : List Value} {S : pS} {K : Option Value → pS → Prop} (h : Ct y cc nL rt d mc ms vs S K) (hd : d ≤ d2) : Ct y cc nL rt d2 mc ms vs S K := fun d' h1 => h d' (Nat.le_trans hd h1)
set_option maxHeartbeats 1000000 in
theorem Ct.ofJ {y : MethodName} {cc : ByteArray} {nL : Nat} {rt : Option FieldType} {d mc ms : Nat} {vs : List Value} {S : pS} {K : Option Value → pS → Prop} (hy : plainName y.cls = true) (hn : (lg_sl vs).length ≤ nL) (J : Jd y cc nL rt d mc ms K 0 0 S 0 (argL vs nL) []) : Ct y cc nL rt d mc ms vs S K := by
  intro d' hd l D q sz
  refine Met.ofW (cc := cc) (maxL := nL) (ret := rt) hy rfl ?_
  intro p e s m args below meth c s₁ B hml hv
  obtain ⟨rfl, hsz, hP, hK⟩ := hv
  have hts := atoms_spec (ws := .code y cc nL rt :: wsU) B.pre
  subst hsz
  have hl := lvL.entry vs hn
  rw [lg_entry_eq]
  generalize (lg_sl vs ++ List.replicate (nL - (lg_sl vs).length) Slot.unset).toArray = ls at hl ⊢
  have hA : ∀ x : Nat, s.heap.size ≤ x → aS S s.heap.size x := fun x h => Or.inr h
  refine J p l e (rmJ d' mc ms) s m vs.toArray below meth c D q (aS S s.heap.size) (MQ below (QJ D q K (aS S s.heap.size)) vs.toArray s mc ms (aS S s.heap.size))
    ⟨B.exec, B.bytes, hml, findClass_of_methodNamed B.named, fun w hw => hts w (List.mem_cons_of_mem _ hw), B.returns, B.notSynchronized, fun h => by rw [← h]; exact (name_of_methodNamed B.named B.method).1, hK, hA, hd, Nat.mul_le_mul_left 40 hd, Nat.le_refl _, Nat.le_refl _⟩ ?_ s.heap [] ls (hP.weaken (fun a x hx _ => Or.inl ⟨x, hx⟩)) va_S.rf hl
  intro r S' hr H locs ls pc ins hins hdg hP' hS'
  have hq : ∀ t : State, t.heap = H → s.WarmedH t.vm → QJ D q K (aS S s.heap.size) vs.toArray s (.returned r) t := fun t ht hW => ⟨⟨r, S', rfl, hr, by rw [ht]; exact hP'⟩, hS'.F ht⟩
  have hlocks := B.notSynchronized
  rcases hins with ⟨rfl, h2, rfl⟩ | ⟨rfl, ty, v, h2, rfl, h3⟩ | ⟨rfl, n, a, h2, rfl⟩
  · exact W.vret B.exec B.bytes (B.returns.trans h2) hq hS'.2.2 hdg hlocks
  · exact W.zret B.exec B.bytes (B.returns.trans h2) h3 hq hS'.2.2 hdg hlocks
  · exact W.aret B.exec B.bytes (B.returns.trans h2) (Or.inl ⟨n, rfl⟩) (Or.inr ⟨a, rfl⟩) hq hS'.2.2 hdg hlocks

/-- int values by their number -/
def iI (z : Int) : Int32 := Int32.ofInt z
theorem iI_add (a b : Int) : iI a + iI b = iI (a + b) := (Int32.ofInt_add a b).symm
theorem iI_sub (a b : Int) : iI a - iI b = iI (a - b) := (Int32.ofInt_sub a b).symm
theorem iI_mul (a b : Int) : iI a * iI b = iI (a * b) := (Int32.ofInt_mul a b).symm
theorem iI_neg (a : Int) : - iI a = iI (-a) := (Int32.ofInt_neg a).symm
theorem iI_of (x : Int32) : iI x.toInt = x := Int32.ofInt_toInt x
theorem iI_to {a : Int} (h1 : -2147483648 ≤ a) (h2 : a < 2147483648) : (iI a).toInt = a := Int32.toInt_ofInt_of_le h1 h2
theorem iI_inj {a b : Int} (a1 : -2147483648 ≤ a) (a2 : a < 2147483648) (b1 : -2147483648 ≤ b) (b2 : b < 2147483648) : iI a = iI b ↔ a = b := by
  rw [← Int32.toInt_inj, iI_to a1 a2, iI_to b1 b2]
theorem iI_le {a b : Int} (a1 : -2147483648 ≤ a) (a2 : a < 2147483648) (b1 : -2147483648 ≤ b) (b2 : b < 2147483648) : iI a ≤ iI b ↔ a ≤ b := by
  rw [Int32.le_iff_toInt_le, iI_to a1 a2, iI_to b1 b2]
theorem iI_lt {a b : Int} (a1 : -2147483648 ≤ a) (a2 : a < 2147483648) (b1 : -2147483648 ≤ b) (b2 : b < 2147483648) : iI a < iI b ↔ a < b := by
  rw [Int32.lt_iff_toInt_lt, iI_to a1 a2, iI_to b1 b2]
theorem iI_in {a : Int} {n : Nat} (h1 : 0 ≤ a) (h2 : a < n) (hn : n < 2147483648) : vp_in (iI a) n := by
  rw [vp_in_iff, iI_to (by omega) (by omega)]
  exact ⟨h1, h2⟩
theorem iI_cl {a : Int} (h1 : 0 ≤ a) (h2 : a < 2147483648) : (iI a).toNatClampNeg = a.toNat := Int32.toNatClampNeg_ofInt_of_le (by omega) h2
theorem iI_div {a b : Int} (a1 : 0 ≤ a) (a2 : a < 2147483648) (b1 : 0 < b) (b2 : b < 2147483648) : iI a / iI b = iI (a / b) := by
  have m1 : Int32.minValue.toInt = -2147483648 := by decide
  have m2 : Int32.maxValue.toInt = 2147483647 := by decide
  have h := Int32.ofInt_tdiv (a := a) (b := b) (by omega) (by omega) (by omega) (by omega)
  rw [Int.tdiv_eq_ediv_of_nonneg a1] at h
  exact h.symm
def uZ (f : Int → Int) (z v : Int) : Int → Int := fun j => if j = z then v else f j
def uQ (f : Int → Option Nat) (z : Int) (v : Option Nat) : Int → Option Nat := fun j => if j = z then v else f j
abbrev aI (n : Nat) (f : Int → Int) : pE := oI n (fun k : Nat => iI (f (k : Int)))
abbrev aQ (k n : Nat) (f : Int → Option Nat) : pE := oQ k n (fun j : Nat => f (j : Int))
theorem aI_up (f : Int → Int) {z : Int} (v : Int) (hz : 0 ≤ z) : upd (fun k : Nat => iI (f (k : Int))) z.toNat (iI v) = fun k : Nat => iI (uZ f z v (k : Int)) := by
  funext k
  unfold upd uZ
  by_cases h : k = z.toNat
  · rw [if_pos h, if_pos (by omega)]
  · rw [if_neg h, if_neg (by omega)]
theorem aQ_up (f : Int → Option Nat) {z : Int} (v : Option Nat) (hz : 0 ≤ z) : va_up (fun k : Nat => f (k : Int)) z.toNat v = fun k : Nat => uQ f z v (k : Int) := by
  funext k
  unfold va_up uQ
  by_cases h : k = z.toNat
  · rw [if_pos h, if_pos (by omega)]
  · rw [if_neg h, if_neg (by omega)]

section JR
variable {y : MethodName} {cc : ByteArray} {nL : Nat} {rt : Option FieldType} {d tc ts : Nat} {K : Option Value → pS → Prop} {c0 s0 : Nat} {S : pS} {pc : Nat} {L : List (Option Value)} {st : List Value}
theorem J_iconst {pc1 : Nat} {n : Int} (hd : decode cc pc = .ok (.iconst n, 1)) (hp : pc + 1 = pc1) (k : Jd y cc nL rt d tc ts K c0 s0 S pc1 L (.int (iI n) :: st)) : Jd y cc nL rt d tc ts K c0 s0 S pc L st := by
  intro p l e R s m args below meth c D q A Q C hR H locs ls hP hS hl
  have C0 := C
  obtain ⟨hx, hb, hml, hown, hts, hrt, hlk, hini, hKK, hA, hdf, hdl, htc, hts2⟩ := C
  have hK := hKK.1
  subst hp
  exact lv_iconst hx hb hd rfl (k p l e R s m args below meth c D q A Q C0 hR H locs ls hP hS hl)
theorem J_bipush {pc1 : Nat} {n : Int} (hv : (Int8.ofInt n).toInt32 = iI n) (hd : decode cc pc = .ok (.bipush n, 2)) (hp : pc + 2 = pc1) (k : Jd y cc nL rt d tc ts K c0 s0 S pc1 L (.int (iI n) :: st)) : Jd y cc nL rt d tc ts K c0 s0 S pc L st := by
  intro p l e R s m args below meth c D q A Q C hR H locs ls hP hS hl
  have C0 := C
  obtain ⟨hx, hb, hml, hown, hts, hrt, hlk, hini, hKK, hA, hdf, hdl, htc, hts2⟩ := C
  have hK := hKK.1
  subst hp
  exact lv_bipush hx hb hd hv (k p l e R s m args below meth c D q A Q C0 hR H locs ls hP hS hl)
theorem J_sipush {pc1 : Nat} {n : Int} (hv : (Int16.ofInt n).toInt32 = iI n) (hd : decode cc pc = .ok (.sipush n, 3)) (hp : pc + 3 = pc1) (k : Jd y cc nL rt d tc ts K c0 s0 S pc1 L (.int (iI n) :: st)) : Jd y cc nL rt d tc ts K c0 s0 S pc L st := by
  intro p l e R s m args below meth c D q A Q C hR H locs ls hP hS hl
  have C0 := C
  obtain ⟨hx, hb, hml, hown, hts, hrt, hlk, hini, hKK, hA, hdf, hdl, htc, hts2⟩ := C
  have hK := hKK.1
  subst hp
  exact lv_sipush hx hb hd hv (k p l e R s m args below meth c D q A Q C0 hR H locs ls hP hS hl)
theorem J_lconst {pc1 : Nat} {n : Fin 2} {v : Int64} (hv : Int64.ofNat (n : Nat) = v) (hd : decode cc pc = .ok (.lconst n, 1)) (hp : pc + 1 = pc1) (k : Jd y cc nL rt d tc ts K c0 s0 S pc1 L (.long v :: st)) : Jd y cc nL rt d tc ts K c0 s0 S pc L st := by
  intro p l e R s m args below meth c D q A Q C hR H locs ls hP hS hl
  have C0 := C
  obtain ⟨hx, hb, hml, hown, hts, hrt, hlk, hini, hKK, hA, hdf, hdl, htc, hts2⟩ := C
  have hK := hKK.1
  subst hp
  exact lv_lconst hx hb hd hv (k p l e R s m args below meth c D q A Q C0 hR H locs ls hP hS hl)
theorem J_null {pc1 : Nat}  (hd : decode cc pc = .ok (.aconst_null, 1)) (hp : pc + 1 = pc1) (k : Jd y cc nL rt d tc ts K c0 s0 S pc1 L (.null :: st)) : Jd y cc nL rt d tc ts K c0 s0 S pc L st := by
  intro p l e R s m args below meth c D q A Q C hR H locs ls hP hS hl
  have C0 := C
  obtain ⟨hx, hb, hml, hown, hts, hrt, hlk, hini, hKK, hA, hdf, hdl, htc, hts2⟩ := C
  have hK := hKK.1
  subst hp
  exact lv_null hx hb hd (k p l e R s m args below meth c D q A Q C0 hR H locs ls hP hS hl)
theorem J_ldc2 {pc1 : Nat} {ix : Nat} {v : Int64} (hw : Cond.constantLong y.cls ix v ∈ wsU) (hd : decode cc pc = .ok (.ldc2_w ix, 3)) (hp : pc + 3 = pc1) (k : Jd y cc nL rt d tc ts K c0 s0 S pc1 L (.long v :: st)) : Jd y cc nL rt d tc ts K c0 s0 S pc L st := by
  intro p l e R s m args below meth c D q A Q C hR H locs ls hP hS hl
  have C0 := C
  obtain ⟨hx, hb, hml, hown, hts, hrt, hlk, hini, hKK, hA, hdf, hdl, htc, hts2⟩ := C
  have hK := hKK.1
  subst hp
  exact lv_ldc2 hx hb hown (hts _ hw) hd (k p l e R s m args below meth c D q A Q C0 hR H locs ls hP hS hl)
theorem J_iload_n {pc1 : Nat} {j : Fin 4} {i : Nat} {x : Int32} (hi : (j : Nat) = i) (hL : L[i]? = some (some (.int x))) (hd : decode cc pc = .ok (.iload_n j, 1)) (hp : pc + 1 = pc1) (k : Jd y cc nL rt d tc ts K c0 s0 S pc1 L (.int x :: st)) : Jd y cc nL rt d tc ts K c0 s0 S pc L st := by
  intro p l e R s m args below meth c D q A Q C hR H locs ls hP hS hl
  have C0 := C
  obtain ⟨hx, hb, hml, hown, hts, hrt, hlk, hini, hKK, hA, hdf, hdl, htc, hts2⟩ := C
  have hK := hKK.1
  subst hp
  exact lv_iload_n hx hb hd hi (hl.2.2 i _ hL) (k p l e R s m args below meth c D q A Q C0 hR H locs ls hP hS hl)
theorem J_iload {pc1 : Nat} {i : Nat} {x : Int32} (hL : L[i]? = some (some (.int x))) (hd : decode cc pc = .ok (.iload i, 2)) (hp : pc + 2 = pc1) (k : Jd y cc nL rt d tc ts K c0 s0 S pc1 L (.int x :: st)) : Jd y cc nL rt d tc ts K c0 s0 S pc L st := by
  intro p l e R s m args below meth c D q A Q C hR H locs ls hP hS hl
  have C0 := C
  obtain ⟨hx, hb, hml, hown, hts, hrt, hlk, hini, hKK, hA, hdf, hdl, htc, hts2⟩ := C
  have hK := hKK.1
  subst hp
  exact lv_iload hx hb hd (hl.2.2 i _ hL) (k p l e R s m args below meth c D q A Q C0 hR H locs ls hP hS hl)
theorem J_lload_n {pc1 : Nat} {j : Fin 4} {i : Nat} {x : Int64} (hi : (j : Nat) = i) (hL : L[i]? = some (some (.long x))) (hd : decode cc pc = .ok (.lload_n j, 1)) (hp : pc + 1 = pc1) (k : Jd y cc nL rt d tc ts K c0 s0 S pc1 L (.long x :: st)) : Jd y cc nL rt d tc ts K c0 s0 S pc L st := by
  intro p l e R s m args below meth c D q A Q C hR H locs ls hP hS hl
  have C0 := C
  obtain ⟨hx, hb, hml, hown, hts, hrt, hlk, hini, hKK, hA, hdf, hdl, htc, hts2⟩ := C
  have hK := hKK.1
  subst hp
  exact lv_lload_n hx hb hd hi (hl.2.2 i _ hL) (k p l e R s m args below meth c D q A Q C0 hR H locs ls hP hS hl)
theorem J_lload {pc1 : Nat} {i : Nat} {x : Int64} (hL : L[i]? = some (some (.long x))) (hd : decode cc pc = .ok (.lload i, 2)) (hp : pc + 2 = pc1) (k : Jd y cc nL rt d tc ts K c0 s0 S pc1 L (.long x :: st)) : Jd y cc nL rt d tc ts K c0 s0 S pc L st := by
  intro p l e R s m args below meth c D q A Q C hR H locs ls hP hS hl
  have C0 := C
  obtain ⟨hx, hb, hml, hown, hts, hrt, hlk, hini, hKK, hA, hdf, hdl, htc, hts2⟩ := C
  have hK := hKK.1
  subst hp
  exact lv_lload hx hb hd (hl.2.2 i _ hL) (k p l e R s m args below meth c D q A Q C0 hR H locs ls hP hS hl)
theorem J_aload_n {pc1 : Nat} {j : Fin 4} {i : Nat} {x : Nat} (hi : (j : Nat) = i) (hL : L[i]? = some (some (.ref x))) (hd : decode cc pc = .ok (.aload_n j, 1)) (hp : pc + 1 = pc1) (k : Jd y cc nL rt d tc ts K c0 s0 S pc1 L (.ref x :: st)) : Jd y cc nL rt d tc ts K c0 s0 S pc L st := by
  intro p l e R s m args below meth c D q A Q C hR H locs ls hP hS hl
  have C0 := C
  obtain ⟨hx, hb, hml, hown, hts, hrt, hlk, hini, hKK, hA, hdf, hdl, htc, hts2⟩ := C
  have hK := hKK.1
  subst hp
  exact lv_aload_n hx hb hd hi (hl.2.2 i _ hL) (k p l e R s m args below meth c D q A Q C0 hR H locs ls hP hS hl)
theorem J_aload {pc1 : Nat} {i : Nat} {x : Nat} (hL : L[i]? = some (some (.ref x))) (hd : decode cc pc = .ok (.aload i, 2)) (hp : pc + 2 = pc1) (k : Jd y cc nL rt d tc ts K c0 s0 S pc1 L (.ref x :: st)) : Jd y cc nL rt d tc ts K c0 s0 S pc L st := by
  intro p l e R s m args below meth c D q A Q C hR H locs ls hP hS hl
  have C0 := C
  obtain ⟨hx, hb, hml, hown, hts, hrt, hlk, hini, hKK, hA, hdf, hdl, htc, hts2⟩ := C
  have hK := hKK.1
  subst hp
  exact lv_aload hx hb hd (hl.2.2 i _ hL) (k p l e R s m args below meth c D q A Q C0 hR H locs ls hP hS hl)
theorem J_aload_nN {pc1 : Nat} {j : Fin 4} {i : Nat} (hi : (j : Nat) = i) (hL : L[i]? = some (some .null)) (hd : decode cc pc = .ok (.aload_n j, 1)) (hp : pc + 1 = pc1) (k : Jd y cc nL rt d tc ts K c0 s0 S pc1 L (.null :: st)) : Jd y cc nL rt d tc ts K c0 s0 S pc L st := by
  intro p l e R s m args below meth c D q A Q C hR H locs ls hP hS hl
  have C0 := C
  obtain ⟨hx, hb, hml, hown, hts, hrt, hlk, hini, hKK, hA, hdf, hdl, htc, hts2⟩ := C
  have hK := hKK.1
  subst hp
  exact lv_aload_nN hx hb hd hi (hl.2.2 i _ hL) (k p l e R s m args below meth c D q A Q C0 hR H locs ls hP hS hl)
theorem J_aloadN {pc1 : Nat} {i : Nat} (hL : L[i]? = some (some .null)) (hd : decode cc pc = .ok (.aload i, 2)) (hp : pc + 2 = pc1) (k : Jd y cc nL rt d tc ts K c0 s0 S pc1 L (.null :: st)) : Jd y cc nL rt d tc ts K c0 s0 S pc L st := by
  intro p l e R s m args below meth c D q A Q C hR H locs ls hP hS hl
  have C0 := C
  obtain ⟨hx, hb, hml, hown, hts, hrt, hlk, hini, hKK, hA, hdf, hdl, htc, hts2⟩ := C
  have hK := hKK.1
  subst hp
  exact lv_aloadN hx hb hd (hl.2.2 i _ hL) (k p l e R s m args below meth c D q A Q C0 hR H locs ls hP hS hl)
theorem J_istore_n {pc1 : Nat} {j : Fin 4} {i : Nat} {x : Int32} (hi : (j : Nat) = i) (hd : decode cc pc = .ok (.istore_n j, 1)) (hp : pc + 1 = pc1) (hn : i < nL) (hc : noL L i = true) {L1 : List (Option Value)} (hk1 : (L.set i (some (.int x))) = L1) (k : Jd y cc nL rt d tc ts K c0 s0 S pc1 L1 st) : Jd y cc nL rt d tc ts K c0 s0 S pc L ((.int x) :: st) := by
  intro p l e R s m args below meth c D q A Q C hR H locs ls hP hS hl
  have C0 := C
  obtain ⟨hx, hb, hml, hown, hts, hrt, hlk, hini, hKK, hA, hdf, hdl, htc, hts2⟩ := C
  have hK := hKK.1
  subst hp
  refine lv_istore_n (lv := lvp L) hx hb hd hi hl.has hn rfl (fun ls1 h1 => ?_)
  subst hk1
  exact k p l e R s m args below meth c D q A Q C0 hR H locs ls1 hP hS (lvL.set1 hc h1)
theorem J_istore {pc1 : Nat} {i : Nat} {x : Int32} (hd : decode cc pc = .ok (.istore i, 2)) (hp : pc + 2 = pc1) (hn : i < nL) (hc : noL L i = true) {L1 : List (Option Value)} (hk1 : (L.set i (some (.int x))) = L1) (k : Jd y cc nL rt d tc ts K c0 s0 S pc1 L1 st) : Jd y cc nL rt d tc ts K c0 s0 S pc L ((.int x) :: st) := by
  intro p l e R s m args below meth c D q A Q C hR H locs ls hP hS hl
  have C0 := C
  obtain ⟨hx, hb, hml, hown, hts, hrt, hlk, hini, hKK, hA, hdf, hdl, htc, hts2⟩ := C
  have hK := hKK.1
  subst hp
  refine lv_istore (lv := lvp L) hx hb hd  hl.has hn rfl (fun ls1 h1 => ?_)
  subst hk1
  exact k p l e R s m args below meth c D q A Q C0 hR H locs ls1 hP hS (lvL.set1 hc h1)
theorem J_lstore_n {pc1 : Nat} {j : Fin 4} {i : Nat} {x : Int64} (hi : (j : Nat) = i) (hd : decode cc pc = .ok (.lstore_n j, 1)) (hp : pc + 1 = pc1) (hn : i + 1 < nL) (hc : noL L i = true) {L1 : List (Option Value)} (hk1 : ((L.set i (some (.long x))).set (i + 1) none) = L1) (k : Jd y cc nL rt d tc ts K c0 s0 S pc1 L1 st) : Jd y cc nL rt d tc ts K c0 s0 S pc L ((.long x) :: st) := by
  intro p l e R s m args below meth c D q A Q C hR H locs ls hP hS hl
  have C0 := C
  obtain ⟨hx, hb, hml, hown, hts, hrt, hlk, hini, hKK, hA, hdf, hdl, htc, hts2⟩ := C
  have hK := hKK.1
  subst hp
  refine lv_lstore_n (lv := lvp L) hx hb hd hi hl.has hn rfl (fun ls1 h1 => ?_)
  subst hk1
  exact k p l e R s m args below meth c D q A Q C0 hR H locs ls1 hP hS (lvL.set2 hc h1)
theorem J_lstore {pc1 : Nat} {i : Nat} {x : Int64} (hd : decode cc pc = .ok (.lstore i, 2)) (hp : pc + 2 = pc1) (hn : i + 1 < nL) (hc : noL L i = true) {L1 : List (Option Value)} (hk1 : ((L.set i (some (.long x))).set (i + 1) none) = L1) (k : Jd y cc nL rt d tc ts K c0 s0 S pc1 L1 st) : Jd y cc nL rt d tc ts K c0 s0 S pc L ((.long x) :: st) := by
  intro p l e R s m args below meth c D q A Q C hR H locs ls hP hS hl
  have C0 := C
  obtain ⟨hx, hb, hml, hown, hts, hrt, hlk, hini, hKK, hA, hdf, hdl, htc, hts2⟩ := C
  have hK := hKK.1
  subst hp
  refine lv_lstore (lv := lvp L) hx hb hd  hl.has hn rfl (fun ls1 h1 => ?_)
  subst hk1
  exact k p l e R s m args below meth c D q A Q C0 hR H locs ls1 hP hS (lvL.set2 hc h1)
theorem J_astore_n {pc1 : Nat} {j : Fin 4} {i : Nat} {x : Nat} (hi : (j : Nat) = i) (hd : decode cc pc = .ok (.astore_n j, 1)) (hp : pc + 1 = pc1) (hn : i < nL) (hc : noL L i = true) {L1 : List (Option Value)} (hk1 : (L.set i (some (.ref x))) = L1) (k : Jd y cc nL rt d tc ts K c0 s0 S pc1 L1 st) : Jd y cc nL rt d tc ts K c0 s0 S pc L ((.ref x) :: st) := by
  intro p l e R s m args below meth c D q A Q C hR H locs ls hP hS hl
  have C0 := C
  obtain ⟨hx, hb, hml, hown, hts, hrt, hlk, hini, hKK, hA, hdf, hdl, htc, hts2⟩ := C
  have hK := hKK.1
  subst hp
  refine lv_astore_n (lv := lvp L) hx hb hd hi hl.has hn rfl (fun ls1 h1 => ?_)
  subst hk1
  exact k p l e R s m args below meth c D q A Q C0 hR H locs ls1 hP hS (lvL.set1 hc h1)
theorem J_astore {pc1 : Nat} {i : Nat} {x : Nat} (hd : decode cc pc = .ok (.astore i, 2)) (hp : pc + 2 = pc1) (hn : i < nL) (hc : noL L i = true) {L1 : List (Option Value)} (hk1 : (L.set i (some (.ref x))) = L1) (k : Jd y cc nL rt d tc ts K c0 s0 S pc1 L1 st) : Jd y cc nL rt d tc ts K c0 s0 S pc L ((.ref x) :: st) := by
  intro p l e R s m args below meth c D q A Q C hR H locs ls hP hS hl
  have C0 := C
  obtain ⟨hx, hb, hml, hown, hts, hrt, hlk, hini, hKK, hA, hdf, hdl, htc, hts2⟩ := C
  have hK := hKK.1
  subst hp
  refine lv_astore (lv := lvp L) hx hb hd  hl.has hn rfl (fun ls1 h1 => ?_)
  subst hk1
  exact k p l e R s m args below meth c D q A Q C0 hR H locs ls1 hP hS (lvL.set1 hc h1)
theorem J_astore_nN {pc1 : Nat} {j : Fin 4} {i : Nat} (hi : (j : Nat) = i) (hd : decode cc pc = .ok (.astore_n j, 1)) (hp : pc + 1 = pc1) (hn : i < nL) (hc : noL L i = true) {L1 : List (Option Value)} (hk1 : (L.set i (some .null)) = L1) (k : Jd y cc nL rt d tc ts K c0 s0 S pc1 L1 st) : Jd y cc nL rt d tc ts K c0 s0 S pc L (.null :: st) := by
  intro p l e R s m args below meth c D q A Q C hR H locs ls hP hS hl
  have C0 := C
  obtain ⟨hx, hb, hml, hown, hts, hrt, hlk, hini, hKK, hA, hdf, hdl, htc, hts2⟩ := C
  have hK := hKK.1
  subst hp
  refine lv_astore_nN (lv := lvp L) hx hb hd hi hl.has hn rfl (fun ls1 h1 => ?_)
  subst hk1
  exact k p l e R s m args below meth c D q A Q C0 hR H locs ls1 hP hS (lvL.set1 hc h1)
theorem J_astoreN {pc1 : Nat} {i : Nat} (hd : decode cc pc = .ok (.astore i, 2)) (hp : pc + 2 = pc1) (hn : i < nL) (hc : noL L i = true) {L1 : List (Option Value)} (hk1 : (L.set i (some .null)) = L1) (k : Jd y cc nL rt d tc ts K c0 s0 S pc1 L1 st) : Jd y cc nL rt d tc ts K c0 s0 S pc L (.null :: st) := by
  intro p l e R s m args below meth c D q A Q C hR H locs ls hP hS hl
  have C0 := C
  obtain ⟨hx, hb, hml, hown, hts, hrt, hlk, hini, hKK, hA, hdf, hdl, htc, hts2⟩ := C
  have hK := hKK.1
  subst hp
  refine lv_astoreN (lv := lvp L) hx hb hd  hl.has hn rfl (fun ls1 h1 => ?_)
  subst hk1
  exact k p l e R s m args below meth c D q A Q C0 hR H locs ls1 hP hS (lvL.set1 hc h1)
theorem J_iinc {pc1 i : Nat} {n a : Int} (hd : decode cc pc = .ok (.iinc i n, 3)) (hp : pc + 3 = pc1) (hL : L[i]? = some (some (.int (iI a)))) (hn : i < nL) (hc : noL L i = true) {L1 : List (Option Value)} (hk1 : L.set i (some (.int (iI (a + n)))) = L1) (k : Jd y cc nL rt d tc ts K c0 s0 S pc1 L1 st) : Jd y cc nL rt d tc ts K c0 s0 S pc L st := by
  intro p l e R s m args below meth c D q A Q C hR H locs ls hP hS hl
  have C0 := C
  obtain ⟨hx, hb, hml, hown, hts, hrt, hlk, hini, hKK, hA, hdf, hdl, htc, hts2⟩ := C
  have hK := hKK.1
  subst hp
  subst hk1
  obtain ⟨kk, hkk⟩ := List.getElem?_of_mem (lvp_mem.mpr hL)
  exact lv_iinc (lv := lvp L) (v := iI (a + n)) hx hb hd hl.has hkk (iI_add a n) hn rfl (fun ls1 h1 => k p l e R s m args below meth c D q A Q C0 hR H locs ls1 hP hS (lvL.set1 hc h1))
theorem J_iadd {pc1 : Nat} {a b : Int} (hd : decode cc pc = .ok (.iadd, 1)) (hp : pc + 1 = pc1) (k : Jd y cc nL rt d tc ts K c0 s0 S pc1 L (.int (iI (a + b)) :: st)) : Jd y cc nL rt d tc ts K c0 s0 S pc L (.int (iI b) :: .int (iI a) :: st) := by
  intro p l e R s m args below meth c D q A Q C hR H locs ls hP hS hl
  have C0 := C
  obtain ⟨hx, hb, hml, hown, hts, hrt, hlk, hini, hKK, hA, hdf, hdl, htc, hts2⟩ := C
  have hK := hKK.1
  subst hp
  refine lv_iadd hx hb hd ?_
  rw [iI_add]
  exact k p l e R s m args below meth c D q A Q C0 hR H locs ls hP hS hl
theorem J_isub {pc1 : Nat} {a b : Int} (hd : decode cc pc = .ok (.isub, 1)) (hp : pc + 1 = pc1) (k : Jd y cc nL rt d tc ts K c0 s0 S pc1 L (.int (iI (a - b)) :: st)) : Jd y cc nL rt d tc ts K c0 s0 S pc L (.int (iI b) :: .int (iI a) :: st) := by
  intro p l e R s m args below meth c D q A Q C hR H locs ls hP hS hl
  have C0 := C
  obtain ⟨hx, hb, hml, hown, hts, hrt, hlk, hini, hKK, hA, hdf, hdl, htc, hts2⟩ := C
  have hK := hKK.1
  subst hp
  refine lv_isub hx hb hd ?_
  rw [iI_sub]
  exact k p l e R s m args below meth c D q A Q C0 hR H locs ls hP hS hl
theorem J_imul {pc1 : Nat} {a b : Int} (hd : decode cc pc = .ok (.imul, 1)) (hp : pc + 1 = pc1) (k : Jd y cc nL rt d tc ts K c0 s0 S pc1 L (.int (iI (a * b)) :: st)) : Jd y cc nL rt d tc ts K c0 s0 S pc L (.int (iI b) :: .int (iI a) :: st) := by
  intro p l e R s m args below meth c D q A Q C hR H locs ls hP hS hl
  have C0 := C
  obtain ⟨hx, hb, hml, hown, hts, hrt, hlk, hini, hKK, hA, hdf, hdl, htc, hts2⟩ := C
  have hK := hKK.1
  subst hp
  refine lv_imul hx hb hd ?_
  rw [iI_mul]
  exact k p l e R s m args below meth c D q A Q C0 hR H locs ls hP hS hl
theorem J_ineg {pc1 : Nat} {a : Int} (hd : decode cc pc = .ok (.ineg, 1)) (hp : pc + 1 = pc1) (k : Jd y cc nL rt d tc ts K c0 s0 S pc1 L (.int (iI (-a)) :: st)) : Jd y cc nL rt d tc ts K c0 s0 S pc L (.int (iI a) :: st) := by
  intro p l e R s m args below meth c D q A Q C hR H locs ls hP hS hl
  have C0 := C
  obtain ⟨hx, hb, hml, hown, hts, hrt, hlk, hini, hKK, hA, hdf, hdl, htc, hts2⟩ := C
  have hK := hKK.1
  subst hp
  refine lv_ineg hx hb hd ?_
  rw [iI_neg]
  exact k p l e R s m args below meth c D q A Q C0 hR H locs ls hP hS hl
theorem J_idiv {pc1 : Nat} {a b : Int} (a1 : 0 ≤ a) (a2 : a < 2147483648) (b1 : 0 < b) (b2 : b < 2147483648) (hd : decode cc pc = .ok (.idiv, 1)) (hp : pc + 1 = pc1) (k : Jd y cc nL rt d tc ts K c0 s0 S pc1 L (.int (iI (a / b)) :: st)) : Jd y cc nL rt d tc ts K c0 s0 S pc L (.int (iI b) :: .int (iI a) :: st) := by
  intro p l e R s m args below meth c D q A Q C hR H locs ls hP hS hl
  have C0 := C
  obtain ⟨hx, hb, hml, hown, hts, hrt, hlk, hini, hKK, hA, hdf, hdl, htc, hts2⟩ := C
  have hK := hKK.1
  subst hp
  refine lv_idiv hx hb hd (fun h0 => ?_) ?_
  · have := (iI_inj (a := b) (b := 0) (by omega) b2 (by omega) (by omega)).mp h0
    omega
  · rw [iI_div a1 a2 b1 b2]
    exact k p l e R s m args below meth c D q A Q C0 hR H locs ls hP hS hl
theorem J_irem {pc1 : Nat} {a b : Int} (a1 : 0 ≤ a) (a2 : a < 2147483648) (b1 : 0 < b) (b2 : b < 2147483648) (hd : decode cc pc = .ok (.irem, 1)) (hp : pc + 1 = pc1) (k : Jd y cc nL rt d tc ts K c0 s0 S pc1 L (.int (iI (a % b)) :: st)) : Jd y cc nL rt d tc ts K c0 s0 S pc L (.int (iI b) :: .int (iI a) :: st) := by
  intro p l e R s m args below meth c D q A Q C hR H locs ls hP hS hl
  have C0 := C
  obtain ⟨hx, hb, hml, hown, hts, hrt, hlk, hini, hKK, hA, hdf, hdl, htc, hts2⟩ := C
  have hK := hKK.1
  subst hp
  refine lv_irem hx hb hd (fun h0 => ?_) ?_
  · have := (iI_inj (a := b) (b := 0) (by omega) b2 (by omega) (by omega)).mp h0
    omega
  · rw [iI_div a1 a2 b1 b2, iI_mul, iI_sub, show a - a / b * b = a % b by rw [Int.emod_def, Int.mul_comm]]
    exact k p l e R s m args below meth c D q A Q C0 hR H locs ls hP hS hl
theorem J_land {pc1 : Nat} {a b : Int64} (hd : decode cc pc = .ok (.land, 1)) (hp : pc + 1 = pc1) (k : Jd y cc nL rt d tc ts K c0 s0 S pc1 L (.long (a &&& b) :: st)) : Jd y cc nL rt d tc ts K c0 s0 S pc L (.long b :: .long a :: st) := by
  intro p l e R s m args below meth c D q A Q C hR H locs ls hP hS hl
  have C0 := C
  obtain ⟨hx, hb, hml, hown, hts, hrt, hlk, hini, hKK, hA, hdf, hdl, htc, hts2⟩ := C
  have hK := hKK.1
  subst hp
  exact lv_land hx hb hd (k p l e R s m args below meth c D q A Q C0 hR H locs ls hP hS hl)
theorem J_lor {pc1 : Nat} {a b : Int64} (hd : decode cc pc = .ok (.lor, 1)) (hp : pc + 1 = pc1) (k : Jd y cc nL rt d tc ts K c0 s0 S pc1 L (.long (a ||| b) :: st)) : Jd y cc nL rt d tc ts K c0 s0 S pc L (.long b :: .long a :: st) := by
  intro p l e R s m args below meth c D q A Q C hR H locs ls hP hS hl
  have C0 := C
  obtain ⟨hx, hb, hml, hown, hts, hrt, hlk, hini, hKK, hA, hdf, hdl, htc, hts2⟩ := C
  have hK := hKK.1
  subst hp
  exact lv_lor hx hb hd (k p l e R s m args below meth c D q A Q C0 hR H locs ls hP hS hl)
theorem J_ladd {pc1 : Nat} {a b : Int64} (hd : decode cc pc = .ok (.ladd, 1)) (hp : pc + 1 = pc1) (k : Jd y cc nL rt d tc ts K c0 s0 S pc1 L (.long (a + b) :: st)) : Jd y cc nL rt d tc ts K c0 s0 S pc L (.long b :: .long a :: st) := by
  intro p l e R s m args below meth c D q A Q C hR H locs ls hP hS hl
  have C0 := C
  obtain ⟨hx, hb, hml, hown, hts, hrt, hlk, hini, hKK, hA, hdf, hdl, htc, hts2⟩ := C
  have hK := hKK.1
  subst hp
  exact lv_ladd hx hb hd (k p l e R s m args below meth c D q A Q C0 hR H locs ls hP hS hl)
theorem J_lsub {pc1 : Nat} {a b : Int64} (hd : decode cc pc = .ok (.lsub, 1)) (hp : pc + 1 = pc1) (k : Jd y cc nL rt d tc ts K c0 s0 S pc1 L (.long (a - b) :: st)) : Jd y cc nL rt d tc ts K c0 s0 S pc L (.long b :: .long a :: st) := by
  intro p l e R s m args below meth c D q A Q C hR H locs ls hP hS hl
  have C0 := C
  obtain ⟨hx, hb, hml, hown, hts, hrt, hlk, hini, hKK, hA, hdf, hdl, htc, hts2⟩ := C
  have hK := hKK.1
  subst hp
  exact lv_lsub hx hb hd (k p l e R s m args below meth c D q A Q C0 hR H locs ls hP hS hl)
theorem J_iand {pc1 : Nat} {a b : Int32} (hd : decode cc pc = .ok (.iand, 1)) (hp : pc + 1 = pc1) (k : Jd y cc nL rt d tc ts K c0 s0 S pc1 L (.int (a &&& b) :: st)) : Jd y cc nL rt d tc ts K c0 s0 S pc L (.int b :: .int a :: st) := by
  intro p l e R s m args below meth c D q A Q C hR H locs ls hP hS hl
  have C0 := C
  obtain ⟨hx, hb, hml, hown, hts, hrt, hlk, hini, hKK, hA, hdf, hdl, htc, hts2⟩ := C
  have hK := hKK.1
  subst hp
  exact lv_iand hx hb hd (k p l e R s m args below meth c D q A Q C0 hR H locs ls hP hS hl)
theorem J_ior {pc1 : Nat} {a b : Int32} (hd : decode cc pc = .ok (.ior, 1)) (hp : pc + 1 = pc1) (k : Jd y cc nL rt d tc ts K c0 s0 S pc1 L (.int (a ||| b) :: st)) : Jd y cc nL rt d tc ts K c0 s0 S pc L (.int b :: .int a :: st) := by
  intro p l e R s m args below meth c D q A Q C hR H locs ls hP hS hl
  have C0 := C
  obtain ⟨hx, hb, hml, hown, hts, hrt, hlk, hini, hKK, hA, hdf, hdl, htc, hts2⟩ := C
  have hK := hKK.1
  subst hp
  exact lv_ior hx hb hd (k p l e R s m args below meth c D q A Q C0 hR H locs ls hP hS hl)
theorem J_lushr {pc1 : Nat} {a v : Int64} {b : Int32} (hv : (a.toUInt64 >>> (b.toInt64.toUInt64 &&& Int64.toUInt64 63)).toInt64 = v) (hd : decode cc pc = .ok (.lushr, 1)) (hp : pc + 1 = pc1) (k : Jd y cc nL rt d tc ts K c0 s0 S pc1 L (.long v :: st)) : Jd y cc nL rt d tc ts K c0 s0 S pc L (.int b :: .long a :: st) := by
  intro p l e R s m args below meth c D q A Q C hR H locs ls hP hS hl
  have C0 := C
  obtain ⟨hx, hb, hml, hown, hts, hrt, hlk, hini, hKK, hA, hdf, hdl, htc, hts2⟩ := C
  have hK := hKK.1
  subst hp
  exact lv_lushr hx hb hd hv (k p l e R s m args below meth c D q A Q C0 hR H locs ls hP hS hl)
theorem J_lshl {pc1 : Nat} {a v : Int64} {b : Int32} (hv : a <<< (b.toInt64 &&& 63) = v) (hd : decode cc pc = .ok (.lshl, 1)) (hp : pc + 1 = pc1) (k : Jd y cc nL rt d tc ts K c0 s0 S pc1 L (.long v :: st)) : Jd y cc nL rt d tc ts K c0 s0 S pc L (.int b :: .long a :: st) := by
  intro p l e R s m args below meth c D q A Q C hR H locs ls hP hS hl
  have C0 := C
  obtain ⟨hx, hb, hml, hown, hts, hrt, hlk, hini, hKK, hA, hdf, hdl, htc, hts2⟩ := C
  have hK := hKK.1
  subst hp
  exact lv_lshl hx hb hd hv (k p l e R s m args below meth c D q A Q C0 hR H locs ls hP hS hl)
theorem J_i2l {pc1 : Nat} {x : Int32} (hd : decode cc pc = .ok (.i2l, 1)) (hp : pc + 1 = pc1) (k : Jd y cc nL rt d tc ts K c0 s0 S pc1 L (.long x.toInt64 :: st)) : Jd y cc nL rt d tc ts K c0 s0 S pc L (.int x :: st) := by
  intro p l e R s m args below meth c D q A Q C hR H locs ls hP hS hl
  have C0 := C
  obtain ⟨hx, hb, hml, hown, hts, hrt, hlk, hini, hKK, hA, hdf, hdl, htc, hts2⟩ := C
  have hK := hKK.1
  subst hp
  exact lv_i2l hx hb hd rfl (k p l e R s m args below meth c D q A Q C0 hR H locs ls hP hS hl)
theorem J_l2i {pc1 : Nat} {x : Int64} (hd : decode cc pc = .ok (.l2i, 1)) (hp : pc + 1 = pc1) (k : Jd y cc nL rt d tc ts K c0 s0 S pc1 L (.int x.toInt32 :: st)) : Jd y cc nL rt d tc ts K c0 s0 S pc L (.long x :: st) := by
  intro p l e R s m args below meth c D q A Q C hR H locs ls hP hS hl
  have C0 := C
  obtain ⟨hx, hb, hml, hown, hts, hrt, hlk, hini, hKK, hA, hdf, hdl, htc, hts2⟩ := C
  have hK := hKK.1
  subst hp
  exact lv_l2i hx hb hd rfl (k p l e R s m args below meth c D q A Q C0 hR H locs ls hP hS hl)
theorem J_lcmp {pc1 : Nat} {a b : Int64} {v : Int32} (hv : lg_cmp a b = v) (hd : decode cc pc = .ok (.lcmp, 1)) (hp : pc + 1 = pc1) (k : Jd y cc nL rt d tc ts K c0 s0 S pc1 L (.int v :: st)) : Jd y cc nL rt d tc ts K c0 s0 S pc L (.long b :: .long a :: st) := by
  intro p l e R s m args below meth c D q A Q C hR H locs ls hP hS hl
  have C0 := C
  obtain ⟨hx, hb, hml, hown, hts, hrt, hlk, hini, hKK, hA, hdf, hdl, htc, hts2⟩ := C
  have hK := hKK.1
  subst hp
  refine W.lcmp hx hb hd ?_
  exact (show lg_cmp a b = v from hv) ▸ k p l e R s m args below meth c D q A Q C0 hR H locs ls hP hS hl
theorem J_dup {pc1 : Nat} {v : Value} (hv : v.category = 1) (hd : decode cc pc = .ok (.dup, 1)) (hp : pc + 1 = pc1) (k : Jd y cc nL rt d tc ts K c0 s0 S pc1 L (v :: v :: st)) : Jd y cc nL rt d tc ts K c0 s0 S pc L (v :: st) := by
  intro p l e R s m args below meth c D q A Q C hR H locs ls hP hS hl
  have C0 := C
  obtain ⟨hx, hb, hml, hown, hts, hrt, hlk, hini, hKK, hA, hdf, hdl, htc, hts2⟩ := C
  have hK := hKK.1
  subst hp
  exact lv_dup hx hb hd hv (k p l e R s m args below meth c D q A Q C0 hR H locs ls hP hS hl)
theorem J_pop {pc1 : Nat} {v : Value} (hv : v.category = 1) (hd : decode cc pc = .ok (.pop, 1)) (hp : pc + 1 = pc1) (k : Jd y cc nL rt d tc ts K c0 s0 S pc1 L st) : Jd y cc nL rt d tc ts K c0 s0 S pc L (v :: st) := by
  intro p l e R s m args below meth c D q A Q C hR H locs ls hP hS hl
  have C0 := C
  obtain ⟨hx, hb, hml, hown, hts, hrt, hlk, hini, hKK, hA, hdf, hdl, htc, hts2⟩ := C
  have hK := hKK.1
  subst hp
  exact lv_pop hx hb hd hv (k p l e R s m args below meth c D q A Q C0 hR H locs ls hP hS hl)
theorem J_dup2 {pc1 : Nat} {v w : Value} (hv : v.category = 1) (hw : w.category = 1) (hd : decode cc pc = .ok (.dup2, 1)) (hp : pc + 1 = pc1) (k : Jd y cc nL rt d tc ts K c0 s0 S pc1 L (v :: w :: v :: w :: st)) : Jd y cc nL rt d tc ts K c0 s0 S pc L (v :: w :: st) := by
  intro p l e R s m args below meth c D q A Q C hR H locs ls hP hS hl
  have C0 := C
  obtain ⟨hx, hb, hml, hown, hts, hrt, hlk, hini, hKK, hA, hdf, hdl, htc, hts2⟩ := C
  have hK := hKK.1
  subst hp
  exact lv_dup2_11 hx hb hd hv hw (k p l e R s m args below meth c D q A Q C0 hR H locs ls hP hS hl)
theorem J_goto {off : Int} {tgt : Nat} (hd : decode cc pc = .ok (.goto off, 3)) (ht : (pc : Int) + off = (tgt : Int)) (k : Jd y cc nL rt d tc ts K c0 s0 S tgt L st) : Jd y cc nL rt d tc ts K c0 s0 S pc L st := by
  intro p l e R s m args below meth c D q A Q C hR H locs ls hP hS hl
  have C0 := C
  obtain ⟨hx, hb, hml, hown, hts, hrt, hlk, hini, hKK, hA, hdf, hdl, htc, hts2⟩ := C
  have hK := hKK.1
  exact lv_goto hx hb hd ht (k p l e R s m args below meth c D q A Q C0 hR H locs ls hP hS hl)
theorem J_if_eq {off : Int} {tgt pc1 : Nat} {a : Int} (a1 : -2147483648 ≤ a) (a2 : a < 2147483648) (hd : decode cc pc = .ok (.ifCond .eq off, 3)) (ht : (pc : Int) + off = (tgt : Int)) (hp : pc + 3 = pc1) (kt : a = 0 → Jd y cc nL rt d tc ts K c0 s0 S tgt L st) (kf : ¬ a = 0 → Jd y cc nL rt d tc ts K c0 s0 S pc1 L st) : Jd y cc nL rt d tc ts K c0 s0 S pc L (.int (iI a) :: st) := by
  intro p l e R s m args below meth c D q A Q C hR H locs ls hP hS hl
  have C0 := C
  obtain ⟨hx, hb, hml, hown, hts, hrt, hlk, hini, hKK, hA, hdf, hdl, htc, hts2⟩ := C
  have hK := hKK.1
  subst hp
  exact lv_if_eq hx hb hd ht (fun h9 => kt ((iI_inj (a := a) (b := 0) a1 a2 (by omega) (by omega)).mp h9) p l e R s m args below meth c D q A Q C0 hR H locs ls hP hS hl) (fun h9 => kf (fun z => h9 ((iI_inj (a := a) (b := 0) a1 a2 (by omega) (by omega)).mpr z)) p l e R s m args below meth c D q A Q C0 hR H locs ls hP hS hl)
theorem J_icmp_eq {off : Int} {tgt pc1 : Nat} {a b : Int} (a1 : -2147483648 ≤ a) (a2 : a < 2147483648) (b1 : -2147483648 ≤ b) (b2 : b < 2147483648) (hd : decode cc pc = .ok (.if_icmp .eq off, 3)) (ht : (pc : Int) + off = (tgt : Int)) (hp : pc + 3 = pc1) (kt : a = b → Jd y cc nL rt d tc ts K c0 s0 S tgt L st) (kf : ¬ a = b → Jd y cc nL rt d tc ts K c0 s0 S pc1 L st) : Jd y cc nL rt d tc ts K c0 s0 S pc L (.int (iI b) :: .int (iI a) :: st) := by
  intro p l e R s m args below meth c D q A Q C hR H locs ls hP hS hl
  have C0 := C
  obtain ⟨hx, hb, hml, hown, hts, hrt, hlk, hini, hKK, hA, hdf, hdl, htc, hts2⟩ := C
  have hK := hKK.1
  subst hp
  exact lv_icmp_eq hx hb hd ht (fun h9 => kt ((iI_inj (a := a) (b := b) a1 a2 b1 b2).mp h9) p l e R s m args below meth c D q A Q C0 hR H locs ls hP hS hl) (fun h9 => kf (fun z => h9 ((iI_inj (a := a) (b := b) a1 a2 b1 b2).mpr z)) p l e R s m args below meth c D q A Q C0 hR H locs ls hP hS hl)
theorem J_if_ne {off : Int} {tgt pc1 : Nat} {a : Int} (a1 : -2147483648 ≤ a) (a2 : a < 2147483648) (hd : decode cc pc = .ok (.ifCond .ne off, 3)) (ht : (pc : Int) + off = (tgt : Int)) (hp : pc + 3 = pc1) (kt : ¬ a = 0 → Jd y cc nL rt d tc ts K c0 s0 S tgt L st) (kf : a = 0 → Jd y cc nL rt d tc ts K c0 s0 S pc1 L st) : Jd y cc nL rt d tc ts K c0 s0 S pc L (.int (iI a) :: st) := by
  intro p l e R s m args below meth c D q A Q C hR H locs ls hP hS hl
  have C0 := C
  obtain ⟨hx, hb, hml, hown, hts, hrt, hlk, hini, hKK, hA, hdf, hdl, htc, hts2⟩ := C
  have hK := hKK.1
  subst hp
  exact lv_if_ne hx hb hd ht (fun h9 => kt (fun z => h9 ((iI_inj (a := a) (b := 0) a1 a2 (by omega) (by omega)).mpr z)) p l e R s m args below meth c D q A Q C0 hR H locs ls hP hS hl) (fun h9 => kf ((iI_inj (a := a) (b := 0) a1 a2 (by omega) (by omega)).mp h9) p l e R s m args below meth c D q A Q C0 hR H locs ls hP hS hl)
theorem J_icmp_ne {off : Int} {tgt pc1 : Nat} {a b : Int} (a1 : -2147483648 ≤ a) (a2 : a < 2147483648) (b1 : -2147483648 ≤ b) (b2 : b < 2147483648) (hd : decode cc pc = .ok (.if_icmp .ne off, 3)) (ht : (pc : Int) + off = (tgt : Int)) (hp : pc + 3 = pc1) (kt : ¬ a = b → Jd y cc nL rt d tc ts K c0 s0 S tgt L st) (kf : a = b → Jd y cc nL rt d tc ts K c0 s0 S pc1 L st) : Jd y cc nL rt d tc ts K c0 s0 S pc L (.int (iI b) :: .int (iI a) :: st) := by
  intro p l e R s m args below meth c D q A Q C hR H locs ls hP hS hl
  have C0 := C
  obtain ⟨hx, hb, hml, hown, hts, hrt, hlk, hini, hKK, hA, hdf, hdl, htc, hts2⟩ := C
  have hK := hKK.1
  subst hp
  exact lv_icmp_ne hx hb hd ht (fun h9 => kt (fun z => h9 ((iI_inj (a := a) (b := b) a1 a2 b1 b2).mpr z)) p l e R s m args below meth c D q A Q C0 hR H locs ls hP hS hl) (fun h9 => kf ((iI_inj (a := a) (b := b) a1 a2 b1 b2).mp h9) p l e R s m args below meth c D q A Q C0 hR H locs ls hP hS hl)
theorem J_if_lt {off : Int} {tgt pc1 : Nat} {a : Int} (a1 : -2147483648 ≤ a) (a2 : a < 2147483648) (hd : decode cc pc = .ok (.ifCond .lt off, 3)) (ht : (pc : Int) + off = (tgt : Int)) (hp : pc + 3 = pc1) (kt : a < 0 → Jd y cc nL rt d tc ts K c0 s0 S tgt L st) (kf : ¬ a < 0 → Jd y cc nL rt d tc ts K c0 s0 S pc1 L st) : Jd y cc nL rt d tc ts K c0 s0 S pc L (.int (iI a) :: st) := by
  intro p l e R s m args below meth c D q A Q C hR H locs ls hP hS hl
  have C0 := C
  obtain ⟨hx, hb, hml, hown, hts, hrt, hlk, hini, hKK, hA, hdf, hdl, htc, hts2⟩ := C
  have hK := hKK.1
  subst hp
  exact lv_if_lt hx hb hd ht (fun h9 => kt ((iI_lt (a := a) (b := 0) a1 a2 (by omega) (by omega)).mp h9) p l e R s m args below meth c D q A Q C0 hR H locs ls hP hS hl) (fun h9 => kf (fun z => h9 ((iI_lt (a := a) (b := 0) a1 a2 (by omega) (by omega)).mpr z)) p l e R s m args below meth c D q A Q C0 hR H locs ls hP hS hl)
theorem J_icmp_lt {off : Int} {tgt pc1 : Nat} {a b : Int} (a1 : -2147483648 ≤ a) (a2 : a < 2147483648) (b1 : -2147483648 ≤ b) (b2 : b < 2147483648) (hd : decode cc pc = .ok (.if_icmp .lt off, 3)) (ht : (pc : Int) + off = (tgt : Int)) (hp : pc + 3 = pc1) (kt : a < b → Jd y cc nL rt d tc ts K c0 s0 S tgt L st) (kf : ¬ a < b → Jd y cc nL rt d tc ts K c0 s0 S pc1 L st) : Jd y cc nL rt d tc ts K c0 s0 S pc L (.int (iI b) :: .int (iI a) :: st) := by
  intro p l e R s m args below meth c D q A Q C hR H locs ls hP hS hl
  have C0 := C
  obtain ⟨hx, hb, hml, hown, hts, hrt, hlk, hini, hKK, hA, hdf, hdl, htc, hts2⟩ := C
  have hK := hKK.1
  subst hp
  exact lv_icmp_lt hx hb hd ht (fun h9 => kt ((iI_lt (a := a) (b := b) a1 a2 b1 b2).mp h9) p l e R s m args below meth c D q A Q C0 hR H locs ls hP hS hl) (fun h9 => kf (fun z => h9 ((iI_lt (a := a) (b := b) a1 a2 b1 b2).mpr z)) p l e R s m args below meth c D q A Q C0 hR H locs ls hP hS hl)
theorem J_if_ge {off : Int} {tgt pc1 : Nat} {a : Int} (a1 : -2147483648 ≤ a) (a2 : a < 2147483648) (hd : decode cc pc = .ok (.ifCond .ge off, 3)) (ht : (pc : Int) + off = (tgt : Int)) (hp : pc + 3 = pc1) (kt : 0 ≤ a → Jd y cc nL rt d tc ts K c0 s0 S tgt L st) (kf : ¬ 0 ≤ a → Jd y cc nL rt d tc ts K c0 s0 S pc1 L st) : Jd y cc nL rt d tc ts K c0 s0 S pc L (.int (iI a) :: st) := by
  intro p l e R s m args below meth c D q A Q C hR H locs ls hP hS hl
  have C0 := C
  obtain ⟨hx, hb, hml, hown, hts, hrt, hlk, hini, hKK, hA, hdf, hdl, htc, hts2⟩ := C
  have hK := hKK.1
  subst hp
  exact lv_if_ge hx hb hd ht (fun h9 => kt ((iI_le (a := 0) (b := a) (by omega) (by omega) a1 a2).mp h9) p l e R s m args below meth c D q A Q C0 hR H locs ls hP hS hl) (fun h9 => kf (fun z => h9 ((iI_le (a := 0) (b := a) (by omega) (by omega) a1 a2).mpr z)) p l e R s m args below meth c D q A Q C0 hR H locs ls hP hS hl)
theorem J_icmp_ge {off : Int} {tgt pc1 : Nat} {a b : Int} (a1 : -2147483648 ≤ a) (a2 : a < 2147483648) (b1 : -2147483648 ≤ b) (b2 : b < 2147483648) (hd : decode cc pc = .ok (.if_icmp .ge off, 3)) (ht : (pc : Int) + off = (tgt : Int)) (hp : pc + 3 = pc1) (kt : b ≤ a → Jd y cc nL rt d tc ts K c0 s0 S tgt L st) (kf : ¬ b ≤ a → Jd y cc nL rt d tc ts K c0 s0 S pc1 L st) : Jd y cc nL rt d tc ts K c0 s0 S pc L (.int (iI b) :: .int (iI a) :: st) := by
  intro p l e R s m args below meth c D q A Q C hR H locs ls hP hS hl
  have C0 := C
  obtain ⟨hx, hb, hml, hown, hts, hrt, hlk, hini, hKK, hA, hdf, hdl, htc, hts2⟩ := C
  have hK := hKK.1
  subst hp
  exact lv_icmp_ge hx hb hd ht (fun h9 => kt ((iI_le (a := b) (b := a) b1 b2 a1 a2).mp h9) p l e R s m args below meth c D q A Q C0 hR H locs ls hP hS hl) (fun h9 => kf (fun z => h9 ((iI_le (a := b) (b := a) b1 b2 a1 a2).mpr z)) p l e R s m args below meth c D q A Q C0 hR H locs ls hP hS hl)
theorem J_if_gt {off : Int} {tgt pc1 : Nat} {a : Int} (a1 : -2147483648 ≤ a) (a2 : a < 2147483648) (hd : decode cc pc = .ok (.ifCond .gt off, 3)) (ht : (pc : Int) + off = (tgt : Int)) (hp : pc + 3 = pc1) (kt : 0 < a → Jd y cc nL rt d tc ts K c0 s0 S tgt L st) (kf : ¬ 0 < a → Jd y cc nL rt d tc ts K c0 s0 S pc1 L st) : Jd y cc nL rt d tc ts K c0 s0 S pc L (.int (iI a) :: st) := by
  intro p l e R s m args below meth c D q A Q C hR H locs ls hP hS hl
  have C0 := C
  obtain ⟨hx, hb, hml, hown, hts, hrt, hlk, hini, hKK, hA, hdf, hdl, htc, hts2⟩ := C
  have hK := hKK.1
  subst hp
  exact lv_if_gt hx hb hd ht (fun h9 => kt ((iI_lt (a := 0) (b := a) (by omega) (by omega) a1 a2).mp h9) p l e R s m args below meth c D q A Q C0 hR H locs ls hP hS hl) (fun h9 => kf (fun z => h9 ((iI_lt (a := 0) (b := a) (by omega) (by omega) a1 a2).mpr z)) p l e R s m args below meth c D q A Q C0 hR H locs ls hP hS hl)
theorem J_icmp_gt {off : Int} {tgt pc1 : Nat} {a b : Int} (a1 : -2147483648 ≤ a) (a2 : a < 2147483648) (b1 : -2147483648 ≤ b) (b2 : b < 2147483648) (hd : decode cc pc = .ok (.if_icmp .gt off, 3)) (ht : (pc : Int) + off = (tgt : Int)) (hp : pc + 3 = pc1) (kt : b < a → Jd y cc nL rt d tc ts K c0 s0 S tgt L st) (kf : ¬ b < a → Jd y cc nL rt d tc ts K c0 s0 S pc1 L st) : Jd y cc nL rt d tc ts K c0 s0 S pc L (.int (iI b) :: .int (iI a) :: st) := by
  intro p l e R s m args below meth c D q A Q C hR H locs ls hP hS hl
  have C0 := C
  obtain ⟨hx, hb, hml, hown, hts, hrt, hlk, hini, hKK, hA, hdf, hdl, htc, hts2⟩ := C
  have hK := hKK.1
  subst hp
  exact lv_icmp_gt hx hb hd ht (fun h9 => kt ((iI_lt (a := b) (b := a) b1 b2 a1 a2).mp h9) p l e R s m args below meth c D q A Q C0 hR H locs ls hP hS hl) (fun h9 => kf (fun z => h9 ((iI_lt (a := b) (b := a) b1 b2 a1 a2).mpr z)) p l e R s m args below meth c D q A Q C0 hR H locs ls hP hS hl)
theorem J_if_le {off : Int} {tgt pc1 : Nat} {a : Int} (a1 : -2147483648 ≤ a) (a2 : a < 2147483648) (hd : decode cc pc = .ok (.ifCond .le off, 3)) (ht : (pc : Int) + off = (tgt : Int)) (hp : pc + 3 = pc1) (kt : a ≤ 0 → Jd y cc nL rt d tc ts K c0 s0 S tgt L st) (kf : ¬ a ≤ 0 → Jd y cc nL rt d tc ts K c0 s0 S pc1 L st) : Jd y cc nL rt d tc ts K c0 s0 S pc L (.int (iI a) :: st) := by
  intro p l e R s m args below meth c D q A Q C hR H locs ls hP hS hl
  have C0 := C
  obtain ⟨hx, hb, hml, hown, hts, hrt, hlk, hini, hKK, hA, hdf, hdl, htc, hts2⟩ := C
  have hK := hKK.1
  subst hp
  exact lv_if_le hx hb hd ht (fun h9 => kt ((iI_le (a := a) (b := 0) a1 a2 (by omega) (by omega)).mp h9) p l e R s m args below meth c D q A Q C0 hR H locs ls hP hS hl) (fun h9 => kf (fun z => h9 ((iI_le (a := a) (b := 0) a1 a2 (by omega) (by omega)).mpr z)) p l e R s m args below meth c D q A Q C0 hR H locs ls hP hS hl)
theorem J_icmp_le {off : Int} {tgt pc1 : Nat} {a b : Int} (a1 : -2147483648 ≤ a) (a2 : a < 2147483648) (b1 : -2147483648 ≤ b) (b2 : b < 2147483648) (hd : decode cc pc = .ok (.if_icmp .le off, 3)) (ht : (pc : Int) + off = (tgt : Int)) (hp : pc + 3 = pc1) (kt : a ≤ b → Jd y cc nL rt d tc ts K c0 s0 S tgt L st) (kf : ¬ a ≤ b → Jd y cc nL rt d tc ts K c0 s0 S pc1 L st) : Jd y cc nL rt d tc ts K c0 s0 S pc L (.int (iI b) :: .int (iI a) :: st) := by
  intro p l e R s m args below meth c D q A Q C hR H locs ls hP hS hl
  have C0 := C
  obtain ⟨hx, hb, hml, hown, hts, hrt, hlk, hini, hKK, hA, hdf, hdl, htc, hts2⟩ := C
  have hK := hKK.1
  subst hp
  exact lv_icmp_le hx hb hd ht (fun h9 => kt ((iI_le (a := a) (b := b) a1 a2 b1 b2).mp h9) p l e R s m args below meth c D q A Q C0 hR H locs ls hP hS hl) (fun h9 => kf (fun z => h9 ((iI_le (a := a) (b := b) a1 a2 b1 b2).mpr z)) p l e R s m args below meth c D q A Q C0 hR H locs ls hP hS hl)
theorem J_ifnull {off : Int} {pc1 x : Nat} (hd : decode cc pc = .ok (.ifnull off, 3)) (hp : pc + 3 = pc1) (k : Jd y cc nL rt d tc ts K c0 s0 S pc1 L st) : Jd y cc nL rt d tc ts K c0 s0 S pc L (.ref x :: st) := by
  intro p l e R s m args below meth c D q A Q C hR H locs ls hP hS hl
  have C0 := C
  obtain ⟨hx, hb, hml, hown, hts, hrt, hlk, hini, hKK, hA, hdf, hdl, htc, hts2⟩ := C
  have hK := hKK.1
  subst hp
  exact lv_ifnull hx hb hd (k p l e R s m args below meth c D q A Q C0 hR H locs ls hP hS hl)
theorem J_ifnullN {off : Int} {tgt : Nat} (hd : decode cc pc = .ok (.ifnull off, 3)) (ht : (pc : Int) + off = (tgt : Int)) (k : Jd y cc nL rt d tc ts K c0 s0 S tgt L st) : Jd y cc nL rt d tc ts K c0 s0 S pc L (.null :: st) := by
  intro p l e R s m args below meth c D q A Q C hR H locs ls hP hS hl
  have C0 := C
  obtain ⟨hx, hb, hml, hown, hts, hrt, hlk, hini, hKK, hA, hdf, hdl, htc, hts2⟩ := C
  have hK := hKK.1
  exact lv_ifnullN hx hb hd ht (k p l e R s m args below meth c D q A Q C0 hR H locs ls hP hS hl)
theorem J_ifnonnull {off : Int} {tgt x : Nat} (hd : decode cc pc = .ok (.ifnonnull off, 3)) (ht : (pc : Int) + off = (tgt : Int)) (k : Jd y cc nL rt d tc ts K c0 s0 S tgt L st) : Jd y cc nL rt d tc ts K c0 s0 S pc L (.ref x :: st) := by
  intro p l e R s m args below meth c D q A Q C hR H locs ls hP hS hl
  have C0 := C
  obtain ⟨hx, hb, hml, hown, hts, hrt, hlk, hini, hKK, hA, hdf, hdl, htc, hts2⟩ := C
  have hK := hKK.1
  exact lv_ifnonnull hx hb hd ht (k p l e R s m args below meth c D q A Q C0 hR H locs ls hP hS hl)
theorem J_ifnonnullN {off : Int} {pc1 : Nat} (hd : decode cc pc = .ok (.ifnonnull off, 3)) (hp : pc + 3 = pc1) (k : Jd y cc nL rt d tc ts K c0 s0 S pc1 L st) : Jd y cc nL rt d tc ts K c0 s0 S pc L (.null :: st) := by
  intro p l e R s m args below meth c D q A Q C hR H locs ls hP hS hl
  have C0 := C
  obtain ⟨hx, hb, hml, hown, hts, hrt, hlk, hini, hKK, hA, hdf, hdl, htc, hts2⟩ := C
  have hK := hKK.1
  subst hp
  exact lv_ifnonnullN hx hb hd (k p l e R s m args below meth c D q A Q C0 hR H locs ls hP hS hl)
theorem J_tableOut {dflt lo hi : Int} {offs : Array Int} {len tgt : Nat} {a : Int} (a1 : -2147483648 ≤ a) (a2 : a < 2147483648) (hd : decode cc pc = .ok (.tableswitch dflt lo hi offs, len)) (h : a < lo ∨ hi < a) (ht : (pc : Int) + dflt = (tgt : Int)) (k : Jd y cc nL rt d tc ts K c0 s0 S tgt L st) : Jd y cc nL rt d tc ts K c0 s0 S pc L (.int (iI a) :: st) := by
  intro p l e R s m args below meth c D q A Q C hR H locs ls hP hS hl
  have C0 := C
  obtain ⟨hx, hb, hml, hown, hts, hrt, hlk, hini, hKK, hA, hdf, hdl, htc, hts2⟩ := C
  have hK := hKK.1
  exact lv_tableOut hx hb hd (by rw [iI_to a1 a2]; exact h) ht (k p l e R s m args below meth c D q A Q C0 hR H locs ls hP hS hl)
theorem J_tableIn {dflt lo hi off : Int} {offs : Array Int} {len tgt : Nat} {a : Int} (a1 : -2147483648 ≤ a) (a2 : a < 2147483648) (hd : decode cc pc = .ok (.tableswitch dflt lo hi offs, len)) (h1 : ¬ a < lo) (h2 : ¬ hi < a) (ho : offs[(a - lo).toNat]? = some off) (ht : (pc : Int) + off = (tgt : Int)) (k : Jd y cc nL rt d tc ts K c0 s0 S tgt L st) : Jd y cc nL rt d tc ts K c0 s0 S pc L (.int (iI a) :: st) := by
  intro p l e R s m args below meth c D q A Q C hR H locs ls hP hS hl
  have C0 := C
  obtain ⟨hx, hb, hml, hown, hts, hrt, hlk, hini, hKK, hA, hdf, hdl, htc, hts2⟩ := C
  have hK := hKK.1
  exact lv_tableIn hx hb hd (by rw [iI_to a1 a2]; exact h1) (by rw [iI_to a1 a2]; exact h2) (by rw [iI_to a1 a2]; exact ho) ht (k p l e R s m args below meth c D q A Q C0 hR H locs ls hP hS hl)
theorem J_lookup {dflt off : Int} {ps : Array (Int × Int)} {len tgt : Nat} {a : Int} (a1 : -2147483648 ≤ a) (a2 : a < 2147483648) (hd : decode cc pc = .ok (.lookupswitch dflt ps, len)) (hq : (ps.toList.zip (ps.toList.drop 1)).all (fun (a, next) => a.1 < next.1) = true) (ho : Op.lookupswitch.offset ps.toList dflt a = off) (ht : (pc : Int) + off = (tgt : Int)) (k : Jd y cc nL rt d tc ts K c0 s0 S tgt L st) : Jd y cc nL rt d tc ts K c0 s0 S pc L (.int (iI a) :: st) := by
  intro p l e R s m args below meth c D q A Q C hR H locs ls hP hS hl
  have C0 := C
  obtain ⟨hx, hb, hml, hown, hts, hrt, hlk, hini, hKK, hA, hdf, hdl, htc, hts2⟩ := C
  have hK := hKK.1
  exact lv_lookup hx hb hd hq (by rw [iI_to a1 a2]; exact ho) ht (k p l e R s m args below meth c D q A Q C0 hR H locs ls hP hS hl)
theorem J_get {pc1 a ci ix N j : Nat} {C : String} {T : u_T} {fs : List Value} {v : Value} (hin : ∀ w ∈ u_ws C T N, w ∈ wsU) (hc : vwCl[ci]? = some (C, T, N)) (hj : j < N) (hw : Cond.fieldLink y.cls ix (T j).1 (T j).2.1 (T j).2.2.1 ∈ wsU) (hd : decode cc pc = .ok (.getfield ix, 3)) (hp : pc + 3 = pc1) (ha : S a = some (oO ci fs)) (hv : fs[j]? = some v) (k : Jd y cc nL rt d tc ts K c0 s0 S pc1 L (v :: st)) : Jd y cc nL rt d tc ts K c0 s0 S pc L (.ref a :: st) := by
  intro p l e R s m args below meth c D q A Q C hR H locs ls hP hS hl
  have C0 := C
  obtain ⟨hx, hb, hml, hown, hts, hrt, hlk, hini, hKK, hA, hdf, hdl, htc, hts2⟩ := C
  have hK := hKK.1
  subst hp
  obtain ⟨L1, f1, k1, g1, g2, g3, -⟩ := hP.at ha
  exact va_get hx hb hts hin hown hK g1 k1 g3 hc j hj (hts _ hw) (fun _ h => h) hv hd (k p l e R s m args below meth c D q A Q C0 hR H locs ls hP hS hl)
theorem J_put {pc1 a ci ix N j : Nat} {C : String} {T : u_T} {fs fs1 : List Value} {v : Value} {ty : FieldType} (hin : ∀ w ∈ u_ws C T N, w ∈ wsU) (hc : vwCl[ci]? = some (C, T, N)) (hj : j < N) (ty0 : Nat → FieldType) (hty : ∀ k, k < N → parseFieldDescriptor (T k).2.2.1 = some (ty0 k)) (hnm : ∀ a, a < N → ∀ b, b < N → a ≠ b → (T a).2.1 ≠ (T b).2.1) (hf : (T j).2.2.2 = false) (hpf : parseFieldDescriptor (T j).2.2.1 = some ty) (hw : Cond.fieldLink y.cls ix (T j).1 (T j).2.1 (T j).2.2.1 ∈ wsU) (hd : decode cc pc = .ok (.putfield ix, 3)) (hp : pc + 3 = pc1) (ha : S a = some (oO ci fs)) (hnv : narrow ty v = v) (hft : fits ty v = true) (hlen : j < fs.length) (hfs : fs.set j v = fs1) (k : Jd y cc nL rt d tc ts K c0 s0 (pu S a (oO ci fs1)) pc1 L st) : Jd y cc nL rt d tc ts K c0 s0 S pc L (v :: .ref a :: st) := by
  intro p l e R s m args below meth c D q A Q C hR H locs ls hP hS hl
  have C0 := C
  obtain ⟨hx, hb, hml, hown, hts, hrt, hlk, hini, hKK, hA, hdf, hdl, htc, hts2⟩ := C
  have hK := hKK.1
  subst hp
  subst hfs
  obtain ⟨L1, f1, k1, g1, g2, g3, g4, -⟩ := hP.at ha
  exact va_put hx hb hts hin ty0 hty hnm hown hK g1 g2 hS k1 g3 hc j hj (hts _ hw) (fun _ h => h) hf hpf hnv hft hlen hd (fun H1 locs1 p1 p2 p3 => k p l e R s m args below meth c D q A Q C0 hR H1 locs1 ls (g4 (oO ci (fs.set j v)) H1 p1 p2) p3 hl)
theorem J_putF {pc1 a ci ix N j : Nat} {C : String} {T : u_T} {fs fs1 : List Value} {v : Value} {ty : FieldType} (hin : ∀ w ∈ u_ws C T N, w ∈ wsU) (hc : vwCl[ci]? = some (C, T, N)) (hj : j < N) (ty0 : Nat → FieldType) (hty : ∀ k, k < N → parseFieldDescriptor (T k).2.2.1 = some (ty0 k)) (hnm : ∀ a, a < N → ∀ b, b < N → a ≠ b → (T a).2.1 ≠ (T b).2.1) (hf : (T j).2.2.2 = true) (hy1 : y.name = "<init>") (hy2 : (T j).1 = y.cls) (hpf : parseFieldDescriptor (T j).2.2.1 = some ty) (hw : Cond.fieldLink y.cls ix (T j).1 (T j).2.1 (T j).2.2.1 ∈ wsU) (hd : decode cc pc = .ok (.putfield ix, 3)) (hp : pc + 3 = pc1) (ha : S a = some (oO ci fs)) (hnv : narrow ty v = v) (hft : fits ty v = true) (hlen : j < fs.length) (hfs : fs.set j v = fs1) (k : Jd y cc nL rt d tc ts K c0 s0 (pu S a (oO ci fs1)) pc1 L st) : Jd y cc nL rt d tc ts K c0 s0 S pc L (v :: .ref a :: st) := by
  intro p l e R s m args below meth c D q A Q C hR H locs ls hP hS hl
  have C0 := C
  obtain ⟨hx, hb, hml, hown, hts, hrt, hlk, hini, hKK, hA, hdf, hdl, htc, hts2⟩ := C
  have hK := hKK.1
  subst hp
  subst hfs
  obtain ⟨L1, f1, k1, g1, g2, g3, g4, -⟩ := hP.at ha
  exact va_putF hx hb hts hin ty0 hty hnm hown hK g1 g2 hS k1 g3 hc j hj (hts _ hw) (fun _ h => h) hf (hini hy1) hy2 hpf hnv hft hlen hd (fun H1 locs1 p1 p2 p3 => k p l e R s m args below meth c D q A Q C0 hR H1 locs1 ls (g4 (oO ci (fs.set j v)) H1 p1 p2) p3 hl)
theorem J_iald {pc1 a n : Nat} {f : Int → Int} {z : Int} (hd : decode cc pc = .ok (.iaload, 1)) (hp : pc + 1 = pc1) (ha : S a = some (aI n f)) (h0 : 0 ≤ z) (h1 : z < n) (hn : n < 2147483648) (k : Jd y cc nL rt d tc ts K c0 s0 S pc1 L (.int (iI (f z)) :: st)) : Jd y cc nL rt d tc ts K c0 s0 S pc L (.int (iI z) :: .ref a :: st) := by
  intro p l e R s m args below meth c D q A Q C hR H locs ls hP hS hl
  have C0 := C
  obtain ⟨hx, hb, hml, hown, hts, hrt, hlk, hini, hKK, hA, hdf, hdl, htc, hts2⟩ := C
  have hK := hKK.1
  subst hp
  obtain ⟨L1, f1, k1, g1, g2, g3, -⟩ := hP.at ha
  refine va_iald hx hb hK g1 k1 0 g3 rfl (iI_in h0 h1 hn) hd ?_
  rw [iI_cl h0 (by omega)]
  dsimp only
  rw [Int.toNat_of_nonneg h0]
  exact k p l e R s m args below meth c D q A Q C0 hR H locs ls hP hS hl
theorem J_iast {pc1 a n : Nat} {f : Int → Int} {z v : Int} (hd : decode cc pc = .ok (.iastore, 1)) (hp : pc + 1 = pc1) (ha : S a = some (aI n f)) (h0 : 0 ≤ z) (h1 : z < n) (hn : n < 2147483648) (k : Jd y cc nL rt d tc ts K c0 s0 (pu S a (aI n (uZ f z v))) pc1 L st) : Jd y cc nL rt d tc ts K c0 s0 S pc L (.int (iI v) :: .int (iI z) :: .ref a :: st) := by
  intro p l e R s m args below meth c D q A Q C hR H locs ls hP hS hl
  have C0 := C
  obtain ⟨hx, hb, hml, hown, hts, hrt, hlk, hini, hKK, hA, hdf, hdl, htc, hts2⟩ := C
  have hK := hKK.1
  subst hp
  obtain ⟨L1, f1, k1, g1, g2, g3, g4, -⟩ := hP.at ha
  refine va_iast hx hb hK g1 g2 hS k1 0 g3 rfl (iI_in h0 h1 hn) hd (fun H1 locs1 p1 p2 p3 => ?_)
  rw [iI_cl h0 (by omega), aI_up f v h0] at p1 p2
  exact k p l e R s m args below meth c D q A Q C0 hR H1 locs1 ls (g4 (aI n (uZ f z v)) H1 p1 p2) p3 hl
theorem J_alenI {pc1 a n : Nat} {f : Nat → Int32} (hd : decode cc pc = .ok (.arraylength, 1)) (hp : pc + 1 = pc1) (ha : S a = some (oI n f)) (k : Jd y cc nL rt d tc ts K c0 s0 S pc1 L (.int (iI n) :: st)) : Jd y cc nL rt d tc ts K c0 s0 S pc L (.ref a :: st) := by
  intro p l e R s m args below meth c D q A Q C hR H locs ls hP hS hl
  have C0 := C
  obtain ⟨hx, hb, hml, hown, hts, hrt, hlk, hini, hKK, hA, hdf, hdl, htc, hts2⟩ := C
  have hK := hKK.1
  subst hp
  obtain ⟨L1, f1, k1, g1, g2, g3, -⟩ := hP.at ha
  exact va_alen hx hb hK g1 k1 0 g3 rfl rfl hd (k p l e R s m args below meth c D q A Q C0 hR H locs ls hP hS hl)
theorem J_alenG {pc1 a n : Nat} {f : Nat → Option Nat} (hd : decode cc pc = .ok (.arraylength, 1)) (hp : pc + 1 = pc1) (ha : S a = some (oQ 0 n f)) (k : Jd y cc nL rt d tc ts K c0 s0 S pc1 L (.int (iI n) :: st)) : Jd y cc nL rt d tc ts K c0 s0 S pc L (.ref a :: st) := by
  intro p l e R s m args below meth c D q A Q C hR H locs ls hP hS hl
  have C0 := C
  obtain ⟨hx, hb, hml, hown, hts, hrt, hlk, hini, hKK, hA, hdf, hdl, htc, hts2⟩ := C
  have hK := hKK.1
  subst hp
  obtain ⟨L1, f1, k1, g1, g2, g3, -⟩ := hP.at ha
  exact va_alen hx hb hK g1 k1 1 g3 rfl rfl hd (k p l e R s m args below meth c D q A Q C0 hR H locs ls hP hS hl)
theorem J_aaldG {pc1 a n : Nat} {f : Int → Option Nat} {z : Int} (hd : decode cc pc = .ok (.aaload, 1)) (hp : pc + 1 = pc1) (ha : S a = some (aQ 0 n f)) (h0 : 0 ≤ z) (h1 : z < n) (hn : n < 2147483648) (k : Jd y cc nL rt d tc ts K c0 s0 S pc1 L (va_rf (f z) :: st)) : Jd y cc nL rt d tc ts K c0 s0 S pc L (.int (iI z) :: .ref a :: st) := by
  intro p l e R s m args below meth c D q A Q C hR H locs ls hP hS hl
  have C0 := C
  obtain ⟨hx, hb, hml, hown, hts, hrt, hlk, hini, hKK, hA, hdf, hdl, htc, hts2⟩ := C
  have hK := hKK.1
  subst hp
  obtain ⟨L1, f1, k1, g1, g2, g3, -⟩ := hP.at ha
  refine va_aldq hx hb hK g1 k1 1 g3 rfl (iI_in h0 h1 hn) hd ?_
  rw [iI_cl h0 (by omega)]
  dsimp only
  rw [Int.toNat_of_nonneg h0]
  exact k p l e R s m args below meth c D q A Q C0 hR H locs ls hP hS hl
theorem J_aastG {pc1 a b n : Nat} {f : Int → Option Nat} {fs : List Value} {z : Int} (hd : decode cc pc = .ok (.aastore, 1)) (hp : pc + 1 = pc1) (ha : S a = some (aQ 0 n f)) (hb9 : S b = some (oO 2 fs)) (h0 : 0 ≤ z) (h1 : z < n) (hn : n < 2147483648) (k : Jd y cc nL rt d tc ts K c0 s0 (pu S a (aQ 0 n (uQ f z (some b)))) pc1 L st) : Jd y cc nL rt d tc ts K c0 s0 S pc L (.ref b :: .int (iI z) :: .ref a :: st) := by
  intro p l e R s m args below meth c D q A Q C hR H locs ls hP hS hl
  have C0 := C
  obtain ⟨hx, hb, hml, hown, hts, hrt, hlk, hini, hKK, hA, hdf, hdl, htc, hts2⟩ := C
  have hK := hKK.1
  subst hp
  obtain ⟨L1, f1, k1, g1, g2, g3, g4, g5⟩ := hP.at ha
  obtain ⟨k2, hk2⟩ := g5 b _ hb9
  refine va_astq hx hb hK g1 g2 hS k1 1 k2 2 g3 rfl hk2 rfl (iI_in h0 h1 hn) hd (fun H1 locs1 p1 p2 p3 => ?_)
  rw [iI_cl h0 (by omega), aQ_up f (some b) h0] at p1 p2
  exact k p l e R s m args below meth c D q A Q C0 hR H1 locs1 ls (g4 (aQ 0 n (uQ f z (some b))) H1 p1 p2) p3 hl
theorem J_alenT {pc1 a n : Nat} {f : Nat → Option Nat} (hd : decode cc pc = .ok (.arraylength, 1)) (hp : pc + 1 = pc1) (ha : S a = some (oQ 1 n f)) (k : Jd y cc nL rt d tc ts K c0 s0 S pc1 L (.int (iI n) :: st)) : Jd y cc nL rt d tc ts K c0 s0 S pc L (.ref a :: st) := by
  intro p l e R s m args below meth c D q A Q C hR H locs ls hP hS hl
  have C0 := C
  obtain ⟨hx, hb, hml, hown, hts, hrt, hlk, hini, hKK, hA, hdf, hdl, htc, hts2⟩ := C
  have hK := hKK.1
  subst hp
  obtain ⟨L1, f1, k1, g1, g2, g3, -⟩ := hP.at ha
  exact va_alen hx hb hK g1 k1 2 g3 rfl rfl hd (k p l e R s m args below meth c D q A Q C0 hR H locs ls hP hS hl)
theorem J_aaldT {pc1 a n : Nat} {f : Int → Option Nat} {z : Int} (hd : decode cc pc = .ok (.aaload, 1)) (hp : pc + 1 = pc1) (ha : S a = some (aQ 1 n f)) (h0 : 0 ≤ z) (h1 : z < n) (hn : n < 2147483648) (k : Jd y cc nL rt d tc ts K c0 s0 S pc1 L (va_rf (f z) :: st)) : Jd y cc nL rt d tc ts K c0 s0 S pc L (.int (iI z) :: .ref a :: st) := by
  intro p l e R s m args below meth c D q A Q C hR H locs ls hP hS hl
  have C0 := C
  obtain ⟨hx, hb, hml, hown, hts, hrt, hlk, hini, hKK, hA, hdf, hdl, htc, hts2⟩ := C
  have hK := hKK.1
  subst hp
  obtain ⟨L1, f1, k1, g1, g2, g3, -⟩ := hP.at ha
  refine va_aldq hx hb hK g1 k1 2 g3 rfl (iI_in h0 h1 hn) hd ?_
  rw [iI_cl h0 (by omega)]
  dsimp only
  rw [Int.toNat_of_nonneg h0]
  exact k p l e R s m args below meth c D q A Q C0 hR H locs ls hP hS hl
theorem J_aastT {pc1 a b n : Nat} {f : Int → Option Nat} {fs : List Value} {z : Int} (hd : decode cc pc = .ok (.aastore, 1)) (hp : pc + 1 = pc1) (ha : S a = some (aQ 1 n f)) (hb9 : S b = some (oO 8 fs)) (h0 : 0 ≤ z) (h1 : z < n) (hn : n < 2147483648) (k : Jd y cc nL rt d tc ts K c0 s0 (pu S a (aQ 1 n (uQ f z (some b)))) pc1 L st) : Jd y cc nL rt d tc ts K c0 s0 S pc L (.ref b :: .int (iI z) :: .ref a :: st) := by
  intro p l e R s m args below meth c D q A Q C hR H locs ls hP hS hl
  have C0 := C
  obtain ⟨hx, hb, hml, hown, hts, hrt, hlk, hini, hKK, hA, hdf, hdl, htc, hts2⟩ := C
  have hK := hKK.1
  subst hp
  obtain ⟨L1, f1, k1, g1, g2, g3, g4, g5⟩ := hP.at ha
  obtain ⟨k2, hk2⟩ := g5 b _ hb9
  refine va_astq hx hb hK g1 g2 hS k1 2 k2 8 g3 rfl hk2 rfl (iI_in h0 h1 hn) hd (fun H1 locs1 p1 p2 p3 => ?_)
  rw [iI_cl h0 (by omega), aQ_up f (some b) h0] at p1 p2
  exact k p l e R s m args below meth c D q A Q C0 hR H1 locs1 ls (g4 (aQ 1 n (uQ f z (some b))) H1 p1 p2) p3 hl
theorem J_new {pc1 ci ix N : Nat} {C : String} {T : u_T} {fs : List Value} (hin : ∀ w ∈ u_ws C T N, w ∈ wsU) (hc : vwCl[ci]? = some (C, T, N)) (ty0 : Nat → FieldType) (hty : ∀ k, k < N → parseFieldDescriptor (T k).2.2.1 = some (ty0 k)) (hw : Cond.classLink y.cls ix C ∈ wsU) (hw2 : Cond.instantiable C N ∈ wsU) (hw3 : Cond.initialized C ∈ wsU) (hfs : ∀ j, j < N → defaultValue (ty0 j) = vp_V fs j) (hd : decode cc pc = .ok (.new ix, 3)) (hp : pc + 3 = pc1) (hc1 : c0 + 1 ≤ tc) (hs1 : s0 + N ≤ ts) (k : ∀ a : Nat, S a = none → Jd y cc nL rt d tc ts K (c0 + 1) (s0 + N) (pu S a (oO ci fs)) pc1 L (.ref a :: st)) : Jd y cc nL rt d tc ts K c0 s0 S pc L st := by
  intro p l e R s m args below meth c D q A Q C hR H locs ls hP hS hl
  have C0 := C
  obtain ⟨hx, hb, hml, hown, hts, hrt, hlk, hini, hKK, hA, hdf, hdl, htc, hts2⟩ := C
  have hK := hKK.1
  subst hp
  obtain ⟨L1, f1, h1, h2, g1, g2⟩ := hP
  refine va_new hx hb hts hin ty0 hty hown (hts _ hw) (hts _ hw2) (hts _ hw3) hK g1 g2 hS hA hc hfs (Nat.le_trans hc1 htc) (Nat.le_trans hs1 hts2) hd (fun a H1 p1 p2 p3 => ?_)
  obtain ⟨n1, n2⟩ := pH.new (e := oO ci fs) h1 h2 p1 p2
  exact k a n1 p l e R s m args below meth c D q A Q C0 hR H1 locs ls n2 p3 hl
theorem J_newI {pc1 n : Nat} {z : Int} (hw : Cond.arrayClass .int ∈ wsU) (hd : decode cc pc = .ok (.newarray .int, 2)) (hp : pc + 2 = pc1) (hz : z = n) (hn : n < 100000000) (hc1 : c0 + 1 ≤ tc) (hs1 : s0 + n ≤ ts) (k : ∀ a : Nat, S a = none → Jd y cc nL rt d tc ts K (c0 + 1) (s0 + n) (pu S a (aI n (fun _ => 0))) pc1 L (.ref a :: st)) : Jd y cc nL rt d tc ts K c0 s0 S pc L (.int (iI z) :: st) := by
  intro p l e R s m args below meth c D q A Q C hR H locs ls hP hS hl
  have C0 := C
  obtain ⟨hx, hb, hml, hown, hts, hrt, hlk, hini, hKK, hA, hdf, hdl, htc, hts2⟩ := C
  have hK := hKK.1
  subst hp
  subst hz
  obtain ⟨L1, f1, h1, h2, g1, g2⟩ := hP
  refine va_newa (atype := .int) (ty := .int) (a0 := (n, .inl (fun _ => 0))) hx hb (hts _ hw) rfl hK g1 g2 hS hA (N' := n) (fun cA => rfl) (by intro h9; have := (iI_lt (a := (n : Int)) (b := 0) (by omega) (by omega) (by omega) (by omega)).mp h9; omega) (by rw [iI_cl (by omega) (by omega)]; omega) (by show n * 4 ≤ 536870912; omega) (Nat.le_trans hc1 htc) (Nat.le_trans hs1 hts2) hd (fun a cA H1 kk p1 p2 p3 => ?_)
  have hcA : cA = q.1 := by
    have e1 := (kk.2 3 (cA, .int) rfl).2
    have e2 := (hK.2 0 (q.1, .int) rfl).2
    exact Option.some.inj (e1.symm.trans e2)
  subst hcA
  obtain ⟨n1, n2⟩ := pH.new (e := aI n (fun _ => 0)) h1 h2 p1 p2
  exact k a n1 p l e R s m args below meth c D q A Q C0 hR H1 locs ls n2 p3 hl
theorem J_newG {pc1 n ix : Nat} {z : Int} (hw : Cond.classLink y.cls ix "BorrowedHours$Game" ∈ wsU) (hd : decode cc pc = .ok (.anewarray ix, 3)) (hp : pc + 3 = pc1) (hz : z = n) (hn : n < 100000000) (hc1 : c0 + 1 ≤ tc) (hs1 : s0 + n ≤ ts) (k : ∀ a : Nat, S a = none → Jd y cc nL rt d tc ts K (c0 + 1) (s0 + n) (pu S a (aQ 0 n (fun _ => none))) pc1 L (.ref a :: st)) : Jd y cc nL rt d tc ts K c0 s0 S pc L (.int (iI z) :: st) := by
  intro p l e R s m args below meth c D q A Q C hR H locs ls hP hS hl
  have C0 := C
  obtain ⟨hx, hb, hml, hown, hts, hrt, hlk, hini, hKK, hA, hdf, hdl, htc, hts2⟩ := C
  have hK := hKK.1
  subst hp
  subst hz
  obtain ⟨L1, f1, h1, h2, g1, g2⟩ := hP
  refine va_newq hx hb hown (hts _ hw) hKK.2.1 hK g1 g2 hS hA (N' := n) (by intro h9; have := (iI_lt (a := (n : Int)) (b := 0) (by omega) (by omega) (by omega) (by omega)).mp h9; omega) (by rw [iI_cl (by omega) (by omega)]; omega) (by omega) (Nat.le_trans hc1 htc) (Nat.le_trans hs1 hts2) hd (fun a cA H1 kk p1 p2 p3 => ?_)
  have hcA : cA = q.2.1 := by
    obtain ⟨-, -, -, -, -, e1⟩ := (kk.2 3 (cA, .object "BorrowedHours$Game") rfl).2
    obtain ⟨-, -, -, -, -, e2⟩ := (hK.2 1 (q.2.1, .object "BorrowedHours$Game") rfl).2
    exact Option.some.inj (e1.symm.trans e2)
  subst hcA
  obtain ⟨n1, n2⟩ := pH.new (e := aQ 0 n (fun _ => none)) h1 h2 p1 p2
  exact k a n1 p l e R s m args below meth c D q A Q C0 hR H1 locs ls n2 p3 hl
theorem J_newT {pc1 n ix : Nat} {z : Int} (hw : Cond.classLink y.cls ix "BorrowedHours$Times" ∈ wsU) (hd : decode cc pc = .ok (.anewarray ix, 3)) (hp : pc + 3 = pc1) (hz : z = n) (hn : n < 100000000) (hc1 : c0 + 1 ≤ tc) (hs1 : s0 + n ≤ ts) (k : ∀ a : Nat, S a = none → Jd y cc nL rt d tc ts K (c0 + 1) (s0 + n) (pu S a (aQ 1 n (fun _ => none))) pc1 L (.ref a :: st)) : Jd y cc nL rt d tc ts K c0 s0 S pc L (.int (iI z) :: st) := by
  intro p l e R s m args below meth c D q A Q C hR H locs ls hP hS hl
  have C0 := C
  obtain ⟨hx, hb, hml, hown, hts, hrt, hlk, hini, hKK, hA, hdf, hdl, htc, hts2⟩ := C
  have hK := hKK.1
  subst hp
  subst hz
  obtain ⟨L1, f1, h1, h2, g1, g2⟩ := hP
  refine va_newq hx hb hown (hts _ hw) hKK.2.2.1 hK g1 g2 hS hA (N' := n) (by intro h9; have := (iI_lt (a := (n : Int)) (b := 0) (by omega) (by omega) (by omega) (by omega)).mp h9; omega) (by rw [iI_cl (by omega) (by omega)]; omega) (by omega) (Nat.le_trans hc1 htc) (Nat.le_trans hs1 hts2) hd (fun a cA H1 kk p1 p2 p3 => ?_)
  have hcA : cA = q.2.2 := by
    obtain ⟨-, -, -, -, -, e1⟩ := (kk.2 3 (cA, .object "BorrowedHours$Times") rfl).2
    obtain ⟨-, -, -, -, -, e2⟩ := (hK.2 2 (q.2.2, .object "BorrowedHours$Times") rfl).2
    exact Option.some.inj (e1.symm.trans e2)
  subst hcA
  obtain ⟨n1, n2⟩ := pH.new (e := aQ 1 n (fun _ => none)) h1 h2 p1 p2
  exact k a n1 p l e R s m args below meth c D q A Q C0 hR H1 locs ls n2 p3 hl
theorem J_objInit {pc1 ix a : Nat} (hw : Cond.methodLink y.cls ix objectInit ∈ wsU) (hw2 : Cond.instanceMethod objectInit ∈ wsU) (hw3 : Cond.code objectInit ⟨#[0xb1]⟩ 1 none ∈ wsU) (hd : decode cc pc = .ok (.invokespecial ix, 3)) (hp : pc + 3 = pc1) (hdd : 1 ≤ d) (hrm : (st.map fun v => v.category).sum ≤ 8) (k : Jd y cc nL rt d tc ts K c0 s0 S pc1 L st) : Jd y cc nL rt d tc ts K c0 s0 S pc L (.ref a :: st) := by
  intro p l e R s m args below meth c D q A Q C hR H locs ls hP hS hl
  have C0 := C
  obtain ⟨hx, hb, hml, hown, hts, hrt, hlk, hini, hKK, hA, hdf, hdl, htc, hts2⟩ := C
  have hK := hKK.1
  subst hp
  exact W.objInit hx hb hown (hts _ hw) (hts _ hw2) (hts _ hw3) rfl (by rw [hml]; exact hl.1) rfl hd (Nat.le_trans hdd hdf) (by show 2 * 0 + _ + 12 ≤ _; omega) (k p l e R s m args below meth c D q A Q C0 hR H locs ls hP hS hl)
theorem J_callV {y1 : MethodName} {cc1 : ByteArray} {nL1 : Nat} {rt1 : Option FieldType} {d1 mc ms n : Nat} {As : List Value} {K1 : Option Value → pS → Prop} {pc1 ix b ci N : Nat} {C : String} {T9 : u_T} {fs : List Value} {stk : List Value} (hG : GoodIn wsU (wsV y.cls ix C y1 (.code y1 cc1 nL1 rt1 :: wsU))) (hy : y1.cls = C ∧ y1.cls ≠ "java/lang/invoke/MethodHandle" ∧ y1.cls ≠ "java/lang/invoke/VarHandle" ∧ (parseMethodDescriptor y1.desc).map (fun d => d.parameters.length) = some n) (hc : vwCl[ci]? = some (C, T9, N)) (hM : Ct y1 cc1 nL1 rt1 d1 mc ms (.ref b :: As) S K1) (hd : decode cc pc = .ok (.invokevirtual ix, 3)) (hp : pc + 3 = pc1) (ha : S b = some (oO ci fs)) (hst : stk = As.reverse ++ .ref b :: st) (hn : As.length = n) (hdd : d1 + 1 ≤ d) (hnl : nL1 ≤ 21) (hcc : c0 + mc ≤ tc) (hss : s0 + ms ≤ ts) (hrm : (st.map fun v => v.category).sum ≤ 8) (k : ∀ (r : Option Value) (S1 : pS), K1 r S1 → Jd y cc nL rt d tc ts K (c0 + mc) (s0 + ms) S1 pc1 L (r.toList ++ st)) : Jd y cc nL rt d tc ts K c0 s0 S pc L stk := by
  intro p l e R s m args below meth c D q A Q C hR H locs ls hP hS hl
  have C0 := C
  obtain ⟨hx, hb, hml, hown, hts, hrt, hlk, hini, hKK, hA, hdf, hdl, htc, hts2⟩ := C
  have hK := hKK.1
  obtain ⟨L1, f9, k1, g1, g2, g3, -⟩ := hP.at ha
  subst hp
  subst hst
  have hrun := va_runV (H := H) (locs := locs) (cells := c0) (slots := s0) (e := e) (meth := meth) (below := below) (g := F0 m pc ls (As.reverse ++ .ref b :: st)) (rest := st) (As := As) (b := b) ⟨hx, hb, hml, hown, hts⟩ (hM d1 (Nat.le_refl _) l D q H.size) (cwV (R := R) n hts hG rfl rfl rfl hy ⟨by show d1 + 1 ≤ _; omega, by show 8 + (nL1 + 11) + 40 * d1 ≤ _; omega⟩) ⟨fun a U g mk z => by obtain ⟨q0, q1, q2, q3⟩ := z; exact ⟨q0, q1, q2, KK.same (u := U) (U := U.calling g mk a) rfl q3⟩, va_recv hK g1 hc g3, fun U hU hW => ⟨rfl, by rw [hU], by rw [hU]; exact hP.weaken (fun _ _ _ _ => trivial), KK.warm hW hKK⟩⟩ rfl hn (hl.1) rfl (lv_room hrm) hd ⟨Nat.le_trans hcc htc, Nat.le_trans hss hts2⟩
  intro T hT X
  obtain ⟨v, st₀, t, T1, L9, e0, X1, hL9, e1, e2, ⟨⟨r, S1, hoc, hKr, hP1⟩, hF⟩, hgo⟩ := hrun T hT X
  cases hoc
  have hA1 : ∀ x : Nat, aS S H.size x → A x := fun x hx9 => hx9.elim (fun ⟨e9, he9⟩ => hP.inA he9) (fun h9 => hA x (Nat.le_trans hS.1 h9))
  rw [← e1] at hP1
  obtain ⟨f1, f2⟩ := hF
  rw [e0, ← e1] at f1 f2
  have hS1 : va_S A s.heap T1.heap (locs ++ L9) := ⟨Nat.le_trans hS.1 f1, fun x h1 h2 => (f2 x (Nat.lt_of_lt_of_le h1 hS.1) (fun z => h2 (hA1 x z))).trans (hS.2.1 x h1 h2), fun x hx9 => (List.mem_append.mp hx9).elim (hS.2.2 x) (fun z => hA1 _ (hL9 x z))⟩
  obtain ⟨t2, a1, b1⟩ := k v S1 hKr p l e R s m args below meth c D q A Q C0 hR T1.heap (locs ++ L9) ls (hP1.weaken (fun x e9 _ z => hA1 x z)) hS1 hl T1 rfl X1
  exact ⟨t2, hgo t2 a1, b1⟩
theorem J_callS {y1 : MethodName} {cc1 : ByteArray} {nL1 : Nat} {rt1 : Option FieldType} {d1 mc ms n : Nat} {As : List Value} {K1 : Option Value → pS → Prop} {pc1 ix : Nat} {stk : List Value} (hG : GoodIn wsU (wsS y.cls ix y1 (.code y1 cc1 nL1 rt1 :: wsU))) (hy : y1.cls = y.cls ∧ y1.cls ≠ "java/lang/invoke/MethodHandle" ∧ y1.cls ≠ "java/lang/invoke/VarHandle" ∧ (parseMethodDescriptor y1.desc).map (fun d => d.parameters.length) = some n) (hM : Ct y1 cc1 nL1 rt1 d1 mc ms As S K1) (hd : decode cc pc = .ok (.invokestatic ix, 3)) (hp : pc + 3 = pc1) (hst : stk = As.reverse ++ st) (hn : As.length = n) (hdd : d1 + 1 ≤ d) (hnl : nL1 ≤ 21) (hcc : c0 + mc ≤ tc) (hss : s0 + ms ≤ ts) (hrm : (st.map fun v => v.category).sum ≤ 8) (k : ∀ (r : Option Value) (S1 : pS), K1 r S1 → Jd y cc nL rt d tc ts K (c0 + mc) (s0 + ms) S1 pc1 L (r.toList ++ st)) : Jd y cc nL rt d tc ts K c0 s0 S pc L stk := by
  intro p l e R s m args below meth c D q A Q C hR H locs ls hP hS hl
  have C0 := C
  obtain ⟨hx, hb, hml, hown, hts, hrt, hlk, hini, hKK, hA, hdf, hdl, htc, hts2⟩ := C
  have hK := hKK.1
  subst hp
  subst hst
  have hrun := va_runS (H := H) (locs := locs) (cells := c0) (slots := s0) (e := e) (meth := meth) (below := below) (g := F0 m pc ls (As.reverse ++ st)) (rest := st) (As := As) ⟨hx, hb, hml, hown, hts⟩ (hM d1 (Nat.le_refl _) l D q H.size) (cwS (R := R) n hts hG rfl rfl rfl hy ⟨by show d1 + 1 ≤ _; omega, by show 8 + (nL1 + 11) + 40 * d1 ≤ _; omega⟩) ⟨fun a U g mk z => by obtain ⟨q0, q1, q2, q3⟩ := z; exact ⟨q0, q1, q2, KK.same (u := U) (U := U.calling g mk a) rfl q3⟩, fun U hU hW => ⟨rfl, by rw [hU], by rw [hU]; exact hP.weaken (fun _ _ _ _ => trivial), KK.warm hW hKK⟩⟩ rfl hn (hl.1) rfl (lv_room hrm) hd ⟨Nat.le_trans hcc htc, Nat.le_trans hss hts2⟩
  intro T hT X
  obtain ⟨v, st₀, t, T1, L9, e0, X1, hL9, e1, e2, ⟨⟨r, S1, hoc, hKr, hP1⟩, hF⟩, hgo⟩ := hrun T hT X
  cases hoc
  have hA1 : ∀ x : Nat, aS S H.size x → A x := fun x hx9 => hx9.elim (fun ⟨e9, he9⟩ => hP.inA he9) (fun h9 => hA x (Nat.le_trans hS.1 h9))
  rw [← e1] at hP1
  obtain ⟨f1, f2⟩ := hF
  rw [e0, ← e1] at f1 f2
  have hS1 : va_S A s.heap T1.heap (locs ++ L9) := ⟨Nat.le_trans hS.1 f1, fun x h1 h2 => (f2 x (Nat.lt_of_lt_of_le h1 hS.1) (fun z => h2 (hA1 x z))).trans (hS.2.1 x h1 h2), fun x hx9 => (List.mem_append.mp hx9).elim (hS.2.2 x) (fun z => hA1 _ (hL9 x z))⟩
  obtain ⟨t2, a1, b1⟩ := k v S1 hKr p l e R s m args below meth c D q A Q C0 hR T1.heap (locs ++ L9) ls (hP1.weaken (fun x e9 _ z => hA1 x z)) hS1 hl T1 rfl X1
  exact ⟨t2, hgo t2 a1, b1⟩
theorem J_callI {y1 : MethodName} {cc1 : ByteArray} {nL1 : Nat} {d1 mc ms n : Nat} {As : List Value} {K1 : Option Value → pS → Prop} {pc1 ix b : Nat} {stk : List Value} (hG : GoodIn wsU (.code y1 cc1 nL1 none :: wsU)) (hy : y1.name = "<init>" ∧ y1.cls ≠ "java/lang/invoke/MethodHandle" ∧ y1.cls ≠ "java/lang/invoke/VarHandle" ∧ (parseMethodDescriptor y1.desc).map (fun d => d.parameters.length) = some n) (hw1 : Cond.initialized y1.cls ∈ wsU) (hw2 : Cond.methodLink y.cls ix y1 ∈ wsU) (hw3 : Cond.instanceMethod y1 ∈ wsU) (hM : Ct y1 cc1 nL1 none d1 mc ms (.ref b :: As) S K1) (hd : decode cc pc = .ok (.invokespecial ix, 3)) (hp : pc + 3 = pc1) (hst : stk = As.reverse ++ .ref b :: st) (hn : As.length = n) (hdd : d1 + 1 ≤ d) (hnl : nL1 ≤ 21) (hcc : c0 + mc ≤ tc) (hss : s0 + ms ≤ ts) (hrm : (st.map fun v => v.category).sum ≤ 8) (k : ∀ (r : Option Value) (S1 : pS), K1 r S1 → Jd y cc nL rt d tc ts K (c0 + mc) (s0 + ms) S1 pc1 L (r.toList ++ st)) : Jd y cc nL rt d tc ts K c0 s0 S pc L stk := by
  intro p l e R s m args below meth c D q A Q C hR H locs ls hP hS hl
  have C0 := C
  obtain ⟨hx, hb, hml, hown, hts, hrt, hlk, hini, hKK, hA, hdf, hdl, htc, hts2⟩ := C
  have hK := hKK.1
  subst hp
  subst hst
  have hrun := va_runI (H := H) (locs := locs) (cells := c0) (slots := s0) (e := e) (meth := meth) (below := below) (g := F0 m pc ls (As.reverse ++ .ref b :: st)) (rest := st) (As := As) (b := b) ⟨hx, hb, hml, hown, hts⟩ (hM d1 (Nat.le_refl _) l D q H.size) (cwI (R := R) n hts hG rfl rfl rfl (hts _ hw1) (hts _ hw2) (hts _ hw3) hy.1 hy.2 ⟨by show d1 + 1 ≤ _; omega, by show 8 + (nL1 + 11) + 40 * d1 ≤ _; omega⟩) ⟨fun a U g mk z => by obtain ⟨q0, q1, q2, q3⟩ := z; exact ⟨q0, q1, q2, KK.same (u := U) (U := U.calling g mk a) rfl q3⟩, fun U hU hW => ⟨rfl, by rw [hU], by rw [hU]; exact hP.weaken (fun _ _ _ _ => trivial), KK.warm hW hKK⟩⟩ rfl hn (hl.1) rfl (lv_room hrm) hd ⟨Nat.le_trans hcc htc, Nat.le_trans hss hts2⟩
  intro T hT X
  obtain ⟨v, st₀, t, T1, L9, e0, X1, hL9, e1, e2, ⟨⟨r, S1, hoc, hKr, hP1⟩, hF⟩, hgo⟩ := hrun T hT X
  cases hoc
  have hA1 : ∀ x : Nat, aS S H.size x → A x := fun x hx9 => hx9.elim (fun ⟨e9, he9⟩ => hP.inA he9) (fun h9 => hA x (Nat.le_trans hS.1 h9))
  rw [← e1] at hP1
  obtain ⟨f1, f2⟩ := hF
  rw [e0, ← e1] at f1 f2
  have hS1 : va_S A s.heap T1.heap (locs ++ L9) := ⟨Nat.le_trans hS.1 f1, fun x h1 h2 => (f2 x (Nat.lt_of_lt_of_le h1 hS.1) (fun z => h2 (hA1 x z))).trans (hS.2.1 x h1 h2), fun x hx9 => (List.mem_append.mp hx9).elim (hS.2.2 x) (fun z => hA1 _ (hL9 x z))⟩
  obtain ⟨t2, a1, b1⟩ := k v S1 hKr p l e R s m args below meth c D q A Q C0 hR T1.heap (locs ++ L9) ls (hP1.weaken (fun x e9 _ z => hA1 x z)) hS1 hl T1 rfl X1
  exact ⟨t2, hgo t2 a1, b1⟩
theorem J_callIN {y1 : MethodName} {cc1 : ByteArray} {nL1 : Nat} {d1 mc ms n : Nat} {As : List Value} {K1 : Option Value → pS → Prop} {pc1 ix b : Nat} {stk : List Value} (hG : GoodIn wsU (.code y1 cc1 nL1 none :: wsU)) (hy : y1.name = "<init>" ∧ y1.cls ≠ "java/lang/invoke/MethodHandle" ∧ y1.cls ≠ "java/lang/invoke/VarHandle" ∧ (parseMethodDescriptor y1.desc).map (fun d => d.parameters.length) = some n) (hw1 : Cond.initialized y1.cls ∈ wsU) {host : String} (hw2 : (y.cls, ix, y1, host) ∈ nestL) (hw3 : Cond.instanceMethod y1 ∈ wsU) (hM : Ct y1 cc1 nL1 none d1 mc ms (.ref b :: As) S K1) (hd : decode cc pc = .ok (.invokespecial ix, 3)) (hp : pc + 3 = pc1) (hst : stk = As.reverse ++ .ref b :: st) (hn : As.length = n) (hdd : d1 + 1 ≤ d) (hnl : nL1 ≤ 21) (hcc : c0 + mc ≤ tc) (hss : s0 + ms ≤ ts) (hrm : (st.map fun v => v.category).sum ≤ 8) (k : ∀ (r : Option Value) (S1 : pS), K1 r S1 → Jd y cc nL rt d tc ts K (c0 + mc) (s0 + ms) S1 pc1 L (r.toList ++ st)) : Jd y cc nL rt d tc ts K c0 s0 S pc L stk := by
  intro p l e R s m args below meth c D q A Q C hR H locs ls hP hS hl
  have C0 := C
  obtain ⟨hx, hb, hml, hown, hts, hrt, hlk, hini, hKK, hA, hdf, hdl, htc, hts2⟩ := C
  have hK := hKK.1
  subst hp
  subst hst
  have hrun := va_runIN (H := H) (locs := locs) (cells := c0) (slots := s0) (e := e) (meth := meth) (below := below) (g := F0 m pc ls (As.reverse ++ .ref b :: st)) (rest := st) (As := As) (b := b) ⟨hx, hb, hml, hown, hts⟩ (hM d1 (Nat.le_refl _) l D q H.size) ⟨va_cnB (R := R) n hts hG rfl rfl rfl (hKK.2.2.2 _ hw2) (hts _ hw1) hy.2 ⟨by show d1 + 1 ≤ _; omega, by show 8 + (nL1 + 11) + 40 * d1 ≤ _; omega⟩, hy.1, hts _ hw3⟩ ⟨fun a U g mk z => by obtain ⟨q0, q1, q2, q3⟩ := z; exact ⟨q0, q1, q2, KK.same (u := U) (U := U.calling g mk a) rfl q3⟩, fun U hU hW => ⟨rfl, by rw [hU], by rw [hU]; exact hP.weaken (fun _ _ _ _ => trivial), KK.warm hW hKK⟩⟩ rfl hn (hl.1) rfl (lv_room hrm) hd ⟨Nat.le_trans hcc htc, Nat.le_trans hss hts2⟩
  intro T hT X
  obtain ⟨v, st₀, t, T1, L9, e0, X1, hL9, e1, e2, ⟨⟨r, S1, hoc, hKr, hP1⟩, hF⟩, hgo⟩ := hrun T hT X
  cases hoc
  have hA1 : ∀ x : Nat, aS S H.size x → A x := fun x hx9 => hx9.elim (fun ⟨e9, he9⟩ => hP.inA he9) (fun h9 => hA x (Nat.le_trans hS.1 h9))
  rw [← e1] at hP1
  obtain ⟨f1, f2⟩ := hF
  rw [e0, ← e1] at f1 f2
  have hS1 : va_S A s.heap T1.heap (locs ++ L9) := ⟨Nat.le_trans hS.1 f1, fun x h1 h2 => (f2 x (Nat.lt_of_lt_of_le h1 hS.1) (fun z => h2 (hA1 x z))).trans (hS.2.1 x h1 h2), fun x hx9 => (List.mem_append.mp hx9).elim (hS.2.2 x) (fun z => hA1 _ (hL9 x z))⟩
  obtain ⟨t2, a1, b1⟩ := k v S1 hKr p l e R s m args below meth c D q A Q C0 hR T1.heap (locs ++ L9) ls (hP1.weaken (fun x e9 _ z => hA1 x z)) hS1 hl T1 rfl X1
  exact ⟨t2, hgo t2 a1, b1⟩
theorem J_widen {c1 s1 : Nat} (hc1 : c0 ≤ c1) (hs1 : s0 ≤ s1) (k : Jd y cc nL rt d tc ts K c1 s1 S pc L st) : Jd y cc nL rt d tc ts K c0 s0 S pc L st := by
  intro p l e R s m args below meth c D q A Q C hR H locs ls hP hS hl
  have C0 := C
  obtain ⟨hx, hb, hml, hown, hts, hrt, hlk, hini, hKK, hA, hdf, hdl, htc, hts2⟩ := C
  have hK := hKK.1
  exact W.widen hc1 hs1 (k p l e R s m args below meth c D q A Q C0 hR H locs ls hP hS hl)
theorem J_vret (hrr : rt = none) (hd : decode cc pc = .ok (.return_, 1)) (hc1 : c0 ≤ tc) (hs1 : s0 ≤ ts) (hk : K none S)  : Jd y cc nL rt d tc ts K c0 s0 S pc L [] := by
  intro p l e R s m args below meth c D q A Q C hR H locs ls hP hS hl
  have C0 := C
  obtain ⟨hx, hb, hml, hown, hts, hrt, hlk, hini, hKK, hA, hdf, hdl, htc, hts2⟩ := C
  have hK := hKK.1
  exact W.widen hc1 hs1 (hR none S hk H locs ls pc _ (Or.inl ⟨rfl, hrr, rfl⟩) hd hP hS)
theorem J_iret {v : Int32} {ty : FieldType} (hrr : rt = some ty) (hnv : narrow ty (.int v) = .int v) (hd : decode cc pc = .ok (.ireturn, 1)) (hc1 : c0 ≤ tc) (hs1 : s0 ≤ ts) (hk : K (some (.int v)) S)  : Jd y cc nL rt d tc ts K c0 s0 S pc L [.int v] := by
  intro p l e R s m args below meth c D q A Q C hR H locs ls hP hS hl
  have C0 := C
  obtain ⟨hx, hb, hml, hown, hts, hrt, hlk, hini, hKK, hA, hdf, hdl, htc, hts2⟩ := C
  have hK := hKK.1
  exact W.widen hc1 hs1 (hR _ S hk H locs ls pc _ (Or.inr (Or.inl ⟨rfl, ty, v, hrr, rfl, hnv⟩)) hd hP hS)
theorem J_aret {a : Nat} {n : String} (hrr : rt = some (.object n)) (hd : decode cc pc = .ok (.areturn, 1)) (hc1 : c0 ≤ tc) (hs1 : s0 ≤ ts) (hk : K (some (.ref a)) S)  : Jd y cc nL rt d tc ts K c0 s0 S pc L [.ref a] := by
  intro p l e R s m args below meth c D q A Q C hR H locs ls hP hS hl
  have C0 := C
  obtain ⟨hx, hb, hml, hown, hts, hrt, hlk, hini, hKK, hA, hdf, hdl, htc, hts2⟩ := C
  have hK := hKK.1
  exact W.widen hc1 hs1 (hR _ S hk H locs ls pc _ (Or.inr (Or.inr ⟨rfl, n, a, hrr, rfl⟩)) hd hP hS)
end JR
end
section
theorem mU {w : Cond} (h : w ∈ lw_tbl) (hg : goodWord w = true) : w ∈ wsU := List.mem_filter.mpr ⟨h, hg⟩
theorem t1m {w : Cond} (h : w ∈ tables_1_1) : w ∈ lw_tbl := List.mem_append_right _ (List.mem_append_left _ h)
theorem t2m {w : Cond} (h : w ∈ tables_1_2) : w ∈ lw_tbl := List.mem_append_right _ (List.mem_append_right _ (List.mem_append_left _ h))
theorem t3m {w : Cond} (h : w ∈ tables_1_3) : w ∈ lw_tbl := List.mem_append_right _ (List.mem_append_right _ (List.mem_append_right _ (List.mem_append_left _ h)))
theorem t4m {w : Cond} (h : w ∈ tables_1_4) : w ∈ lw_tbl := List.mem_append_right _ (List.mem_append_right _ (List.mem_append_right _ (List.mem_append_right _ h)))
theorem gU {w : Cond} (h : w ∈ wsU) : w ∈ wsU ∧ ((w.onTables && w.keeps) = true ∨ ∃ ty, w = .arrayClass ty) := ⟨h, good_of_word (List.mem_filter.mp h).2⟩
theorem good_C {w : Cond} (h : w ∈ wsU) : GoodIn wsU (w :: wsU) := fun x hx => (List.mem_cons.mp hx).elim (fun e => by rw [e]; exact gU h) gU
theorem good_V {own C : String} {ix : Nat} {y : MethodName} {w : Cond} (h1 : Cond.methodLink own ix y ∈ wsU) (h2 : Cond.instanceMethod y ∈ wsU) (h3 : Cond.selects C y y ∈ wsU) (h4 : Cond.initialized C ∈ wsU) (h5 : w ∈ wsU) : GoodIn wsU (wsV own ix C y (w :: wsU)) := by
  intro x hx
  unfold wsV at hx
  rcases List.mem_append.mp hx with h | h
  · simp only [List.mem_cons, List.not_mem_nil, or_false] at h
    rcases h with rfl | rfl | rfl | rfl
    · exact gU h1
    · exact gU h2
    · exact gU h3
    · exact gU h4
  · exact good_C h5 x h
theorem good_S {own : String} {ix : Nat} {y : MethodName} {w : Cond} (h1 : Cond.methodLink own ix y ∈ wsU) (h2 : Cond.static y ∈ wsU) (h4 : Cond.initialized own ∈ wsU) (h5 : w ∈ wsU) : GoodIn wsU (wsS own ix y (w :: wsU)) := by
  intro x hx
  unfold wsS at hx
  rcases List.mem_append.mp hx with h | h
  · simp only [List.mem_cons, List.not_mem_nil, or_false] at h
    rcases h with rfl | rfl | rfl
    · exact gU h1
    · exact gU h2
    · exact gU h4
  · exact good_C h5 x h
theorem u_all {C : String} {T : u_T} {N : Nat} (h : ∀ k, k < N → u_lay C T k ∈ wsU) : ∀ w ∈ u_ws C T N, w ∈ wsU := by
  intro w hw
  unfold u_ws at hw
  obtain ⟨k, hk, rfl⟩ := List.mem_map.mp hw
  exact h k (List.mem_range.mp hk)
theorem ln_L : Cond.initialized RL ∈ wsU := mU (t1m (List.mem_of_getElem? (i := 0) rfl)) rfl
theorem ln_X9 : Cond.initialized RX9 ∈ wsU := mU (t1m (List.mem_of_getElem? (i := 1) rfl)) rfl
theorem ln_X2 : Cond.initialized RX2 ∈ wsU := mU (t1m (List.mem_of_getElem? (i := 2) rfl)) rfl
theorem ln_X6 : Cond.initialized RX6 ∈ wsU := mU (t1m (List.mem_of_getElem? (i := 3) rfl)) rfl
theorem ln_X3 : Cond.initialized RX3 ∈ wsU := mU (t1m (List.mem_of_getElem? (i := 4) rfl)) rfl
theorem ln_X7 : Cond.initialized RX7 ∈ wsU := mU (t1m (List.mem_of_getElem? (i := 5) rfl)) rfl
theorem ln_X5 : Cond.initialized RX5 ∈ wsU := mU (t1m (List.mem_of_getElem? (i := 6) rfl)) rfl
theorem ln_X4 : Cond.initialized RX4 ∈ wsU := mU (t1m (List.mem_of_getElem? (i := 7) rfl)) rfl
theorem ln_X0 : Cond.initialized RX0 ∈ wsU := mU (t1m (List.mem_of_getElem? (i := 8) rfl)) rfl
theorem ln_X1 : Cond.initialized RX1 ∈ wsU := mU (t1m (List.mem_of_getElem? (i := 9) rfl)) rfl
theorem ln_X10 : Cond.initialized RX10 ∈ wsU := mU (t1m (List.mem_of_getElem? (i := 10) rfl)) rfl
theorem ln_Math : Cond.initialized "java/lang/Math" ∈ wsU := mU (t1m (List.mem_of_getElem? (i := 11) rfl)) rfl
theorem ln_X8 : Cond.initialized RX8 ∈ wsU := mU (t1m (List.mem_of_getElem? (i := 12) rfl)) rfl
theorem ll_L_7 : Cond.classLink RL 7 RX9 ∈ wsU := mU (t1m (List.mem_of_getElem? (i := 13) rfl)) rfl
theorem lt_X9 : Cond.instantiable RX9 8 ∈ wsU := mU (t1m (List.mem_of_getElem? (i := 14) rfl)) rfl
theorem lm_L_9 : Cond.methodLink RL 9 yX9_init ∈ wsU := mU (t1m (List.mem_of_getElem? (i := 15) rfl)) rfl
theorem li_X9_init : Cond.instanceMethod yX9_init ∈ wsU := mU (t1m (List.mem_of_getElem? (i := 16) rfl)) rfl
theorem lc_X9_init : Cond.code yX9_init cX9_init 1 (Option.none : Option FieldType) ∈ wsU := mU (t1m (List.mem_of_getElem? (i := 17) rfl)) rfl
theorem lm_X9_3 : Cond.methodLink RX9 3 objectInit ∈ wsU := mU (t1m (List.mem_of_getElem? (i := 18) rfl)) rfl
theorem li_init_Object : Cond.instanceMethod objectInit ∈ wsU := mU (t1m (List.mem_of_getElem? (i := 19) rfl)) rfl
theorem lc_init_Object : Cond.code objectInit object_method_1_code 1 (Option.none : Option FieldType) ∈ wsU := mU (t1m (List.mem_of_getElem? (i := 20) rfl)) rfl
theorem ll_X9_9 : Cond.classLink RX9 9 RX2 ∈ wsU := mU (t1m (List.mem_of_getElem? (i := 21) rfl)) rfl
theorem lt_X2 : Cond.instantiable RX2 10 ∈ wsU := mU (t1m (List.mem_of_getElem? (i := 22) rfl)) rfl
theorem li_X2_init : Cond.instanceMethod yX2_init ∈ wsU := mU (t1m (List.mem_of_getElem? (i := 24) rfl)) rfl
theorem lc_X2_init : Cond.code yX2_init cX2_init 1 (Option.none : Option FieldType) ∈ wsU := mU (t1m (List.mem_of_getElem? (i := 25) rfl)) rfl
theorem lm_X2_3 : Cond.methodLink RX2 3 objectInit ∈ wsU := mU (t1m (List.mem_of_getElem? (i := 26) rfl)) rfl
theorem ll_X2_15 : Cond.classLink RX2 15 RX6 ∈ wsU := mU (t1m (List.mem_of_getElem? (i := 27) rfl)) rfl
theorem lt_X6 : Cond.instantiable RX6 5 ∈ wsU := mU (t1m (List.mem_of_getElem? (i := 28) rfl)) rfl
theorem li_X6_init : Cond.instanceMethod yX6_init ∈ wsU := mU (t1m (List.mem_of_getElem? (i := 30) rfl)) rfl
theorem lc_X6_init : Cond.code yX6_init cX6_init 1 (Option.none : Option FieldType) ∈ wsU := mU (t1m (List.mem_of_getElem? (i := 31) rfl)) rfl
theorem lm_X6_3 : Cond.methodLink RX6 3 objectInit ∈ wsU := mU (t1m (List.mem_of_getElem? (i := 32) rfl)) rfl
theorem lf_X6_9 : Cond.fieldLink RX6 9 "BorrowedHours$Side" "began" "I" ∈ wsU := mU (t1m (List.mem_of_getElem? (i := 33) rfl)) rfl
theorem lf_X9_99 : Cond.fieldLink RX9 99 "BorrowedHours$Side" "began" "I" ∈ wsU := mU (t1m (List.mem_of_getElem? (i := 34) rfl)) rfl
theorem lf_X6_15 : Cond.fieldLink RX6 15 "BorrowedHours$Side" "hours" "I" ∈ wsU := mU (t1m (List.mem_of_getElem? (i := 35) rfl)) rfl
theorem lf_X9_148 : Cond.fieldLink RX9 148 "BorrowedHours$Side" "hours" "I" ∈ wsU := mU (t1m (List.mem_of_getElem? (i := 36) rfl)) rfl
theorem lf_X2_61 : Cond.fieldLink RX2 61 "BorrowedHours$Side" "hours" "I" ∈ wsU := mU (t1m (List.mem_of_getElem? (i := 37) rfl)) rfl
theorem lf_X6_18 : Cond.fieldLink RX6 18 "BorrowedHours$Side" "paid" "I" ∈ wsU := mU (t1m (List.mem_of_getElem? (i := 38) rfl)) rfl
theorem lf_X9_154 : Cond.fieldLink RX9 154 "BorrowedHours$Side" "paid" "I" ∈ wsU := mU (t1m (List.mem_of_getElem? (i := 39) rfl)) rfl
theorem lf_X2_76 : Cond.fieldLink RX2 76 "BorrowedHours$Side" "paid" "I" ∈ wsU := mU (t1m (List.mem_of_getElem? (i := 40) rfl)) rfl
theorem lf_X6_21 : Cond.fieldLink RX6 21 "BorrowedHours$Side" "took" "I" ∈ wsU := mU (t1m (List.mem_of_getElem? (i := 41) rfl)) rfl
theorem lf_X9_157 : Cond.fieldLink RX9 157 "BorrowedHours$Side" "took" "I" ∈ wsU := mU (t1m (List.mem_of_getElem? (i := 42) rfl)) rfl
theorem lf_X2_79 : Cond.fieldLink RX2 79 "BorrowedHours$Side" "took" "I" ∈ wsU := mU (t1m (List.mem_of_getElem? (i := 43) rfl)) rfl
theorem lf_X6_24 : Cond.fieldLink RX6 24 "BorrowedHours$Side" "won" "I" ∈ wsU := mU (t1m (List.mem_of_getElem? (i := 44) rfl)) rfl
theorem lf_X9_160 : Cond.fieldLink RX9 160 "BorrowedHours$Side" "won" "I" ∈ wsU := mU (t1m (List.mem_of_getElem? (i := 45) rfl)) rfl
theorem lf_X2_85 : Cond.fieldLink RX2 85 "BorrowedHours$Side" "won" "I" ∈ wsU := mU (t1m (List.mem_of_getElem? (i := 46) rfl)) rfl
theorem ly_X6_began : Cond.lays "BorrowedHours$Side" "BorrowedHours$Side" "began" "I" ∈ wsU := mU (t1m (List.mem_of_getElem? (i := 47) rfl)) rfl
theorem ly_X6_hours : Cond.lays "BorrowedHours$Side" "BorrowedHours$Side" "hours" "I" ∈ wsU := mU (t1m (List.mem_of_getElem? (i := 49) rfl)) rfl
theorem ly_X6_paid : Cond.lays "BorrowedHours$Side" "BorrowedHours$Side" "paid" "I" ∈ wsU := mU (t1m (List.mem_of_getElem? (i := 51) rfl)) rfl
theorem ly_X6_took : Cond.lays "BorrowedHours$Side" "BorrowedHours$Side" "took" "I" ∈ wsU := mU (t1m (List.mem_of_getElem? (i := 53) rfl)) rfl
theorem ly_X6_won : Cond.lays "BorrowedHours$Side" "BorrowedHours$Side" "won" "I" ∈ wsU := mU (t1m (List.mem_of_getElem? (i := 55) rfl)) rfl
theorem lf_X2_9 : Cond.fieldLink RX2 9 "BorrowedHours$Game" "end" "I" ∈ wsU := mU (t1m (List.mem_of_getElem? (i := 58) rfl)) rfl
theorem lf_X4_32 : Cond.fieldLink RX4 32 "BorrowedHours$Game" "end" "I" ∈ wsU := mU (t1m (List.mem_of_getElem? (i := 59) rfl)) rfl
theorem lf_X1_38 : Cond.fieldLink RX1 38 "BorrowedHours$Game" "end" "I" ∈ wsU := mU (t1m (List.mem_of_getElem? (i := 60) rfl)) rfl
theorem lf_X2_25 : Cond.fieldLink RX2 25 "BorrowedHours$Game" "loan" "I" ∈ wsU := mU (t1m (List.mem_of_getElem? (i := 61) rfl)) rfl
theorem lf_X9_190 : Cond.fieldLink RX9 190 "BorrowedHours$Game" "loan" "I" ∈ wsU := mU (t1m (List.mem_of_getElem? (i := 62) rfl)) rfl
theorem lf_X4_17 : Cond.fieldLink RX4 17 "BorrowedHours$Game" "pays" "I" ∈ wsU := mU (t1m (List.mem_of_getElem? (i := 63) rfl)) rfl
theorem lf_X2_28 : Cond.fieldLink RX2 28 "BorrowedHours$Game" "pays" "I" ∈ wsU := mU (t1m (List.mem_of_getElem? (i := 64) rfl)) rfl
theorem lf_X2_31 : Cond.fieldLink RX2 31 "BorrowedHours$Game" "tie" "I" ∈ wsU := mU (t1m (List.mem_of_getElem? (i := 65) rfl)) rfl
theorem lf_X4_35 : Cond.fieldLink RX4 35 "BorrowedHours$Game" "tie" "I" ∈ wsU := mU (t1m (List.mem_of_getElem? (i := 66) rfl)) rfl
theorem lf_X1_69 : Cond.fieldLink RX1 69 "BorrowedHours$Game" "tie" "I" ∈ wsU := mU (t1m (List.mem_of_getElem? (i := 67) rfl)) rfl
theorem lf_X2_34 : Cond.fieldLink RX2 34 "BorrowedHours$Game" "hand" "I" ∈ wsU := mU (t1m (List.mem_of_getElem? (i := 68) rfl)) rfl
theorem lf_X9_166 : Cond.fieldLink RX9 166 "BorrowedHours$Game" "hand" "I" ∈ wsU := mU (t1m (List.mem_of_getElem? (i := 69) rfl)) rfl
theorem lf_X0_15 : Cond.fieldLink RX0 15 "BorrowedHours$Game" "first" "I" ∈ wsU := mU (t1m (List.mem_of_getElem? (i := 70) rfl)) rfl
theorem lf_X2_37 : Cond.fieldLink RX2 37 "BorrowedHours$Game" "first" "I" ∈ wsU := mU (t1m (List.mem_of_getElem? (i := 71) rfl)) rfl
theorem lf_X1_30 : Cond.fieldLink RX1 30 "BorrowedHours$Game" "first" "I" ∈ wsU := mU (t1m (List.mem_of_getElem? (i := 72) rfl)) rfl
theorem lf_X9_169 : Cond.fieldLink RX9 169 "BorrowedHours$Game" "first" "I" ∈ wsU := mU (t1m (List.mem_of_getElem? (i := 73) rfl)) rfl
theorem lf_X2_40 : Cond.fieldLink RX2 40 "BorrowedHours$Game" "rounds" "I" ∈ wsU := mU (t1m (List.mem_of_getElem? (i := 74) rfl)) rfl
theorem lf_X9_91 : Cond.fieldLink RX9 91 "BorrowedHours$Game" "rounds" "I" ∈ wsU := mU (t1m (List.mem_of_getElem? (i := 75) rfl)) rfl
theorem lf_X2_43 : Cond.fieldLink RX2 43 "BorrowedHours$Game" "clock" "I" ∈ wsU := mU (t1m (List.mem_of_getElem? (i := 76) rfl)) rfl
theorem lf_X9_175 : Cond.fieldLink RX9 175 "BorrowedHours$Game" "clock" "I" ∈ wsU := mU (t1m (List.mem_of_getElem? (i := 77) rfl)) rfl
theorem lf_X2_18 : Cond.fieldLink RX2 18 "BorrowedHours$Game" "zero" "LBorrowedHours$Side;" ∈ wsU := mU (t1m (List.mem_of_getElem? (i := 78) rfl)) rfl
theorem lf_X9_95 : Cond.fieldLink RX9 95 "BorrowedHours$Game" "zero" "LBorrowedHours$Side;" ∈ wsU := mU (t1m (List.mem_of_getElem? (i := 79) rfl)) rfl
theorem lf_X2_22 : Cond.fieldLink RX2 22 "BorrowedHours$Game" "one" "LBorrowedHours$Side;" ∈ wsU := mU (t1m (List.mem_of_getElem? (i := 80) rfl)) rfl
theorem lf_X9_104 : Cond.fieldLink RX9 104 "BorrowedHours$Game" "one" "LBorrowedHours$Side;" ∈ wsU := mU (t1m (List.mem_of_getElem? (i := 81) rfl)) rfl
theorem ly_X2_end : Cond.lays "BorrowedHours$Game" "BorrowedHours$Game" "end" "I" ∈ wsU := mU (t1m (List.mem_of_getElem? (i := 82) rfl)) rfl
theorem ly_X2_loan : Cond.lays "BorrowedHours$Game" "BorrowedHours$Game" "loan" "I" ∈ wsU := mU (t1m (List.mem_of_getElem? (i := 84) rfl)) rfl
theorem ly_X2_pays : Cond.lays "BorrowedHours$Game" "BorrowedHours$Game" "pays" "I" ∈ wsU := mU (t1m (List.mem_of_getElem? (i := 86) rfl)) rfl
theorem ly_X2_tie : Cond.lays "BorrowedHours$Game" "BorrowedHours$Game" "tie" "I" ∈ wsU := mU (t1m (List.mem_of_getElem? (i := 88) rfl)) rfl
theorem ly_X2_hand : Cond.lays "BorrowedHours$Game" "BorrowedHours$Game" "hand" "I" ∈ wsU := mU (t1m (List.mem_of_getElem? (i := 90) rfl)) rfl
theorem ly_X2_first : Cond.lays "BorrowedHours$Game" "BorrowedHours$Game" "first" "I" ∈ wsU := mU (t1m (List.mem_of_getElem? (i := 92) rfl)) rfl
theorem ly_X2_rounds : Cond.lays "BorrowedHours$Game" "BorrowedHours$Game" "rounds" "I" ∈ wsU := mU (t1m (List.mem_of_getElem? (i := 94) rfl)) rfl
theorem ly_X2_clock : Cond.lays "BorrowedHours$Game" "BorrowedHours$Game" "clock" "I" ∈ wsU := mU (t1m (List.mem_of_getElem? (i := 96) rfl)) rfl
theorem ly_X2_zero : Cond.laysFinal "BorrowedHours$Game" "BorrowedHours$Game" "zero" "LBorrowedHours$Side;" ∈ wsU := mU (t1m (List.mem_of_getElem? (i := 98) rfl)) rfl
theorem ly_X2_one : Cond.laysFinal "BorrowedHours$Game" "BorrowedHours$Game" "one" "LBorrowedHours$Side;" ∈ wsU := mU (t1m (List.mem_of_getElem? (i := 100) rfl)) rfl
theorem ll_X9_16 : Cond.classLink RX9 16 RX3 ∈ wsU := mU (t1m (List.mem_of_getElem? (i := 103) rfl)) rfl
theorem lt_X3 : Cond.instantiable RX3 2 ∈ wsU := mU (t1m (List.mem_of_getElem? (i := 104) rfl)) rfl
theorem li_X3_init : Cond.instanceMethod yX3_init ∈ wsU := mU (t1m (List.mem_of_getElem? (i := 106) rfl)) rfl
theorem lc_X3_init : Cond.code yX3_init cX3_init 1 (Option.none : Option FieldType) ∈ wsU := mU (t1m (List.mem_of_getElem? (i := 107) rfl)) rfl
theorem lm_X3_3 : Cond.methodLink RX3 3 objectInit ∈ wsU := mU (t1m (List.mem_of_getElem? (i := 108) rfl)) rfl
theorem ll_X3_9 : Cond.classLink RX3 9 RX2 ∈ wsU := mU (t1m (List.mem_of_getElem? (i := 109) rfl)) rfl
theorem lf_X3_11 : Cond.fieldLink RX3 11 "BorrowedHours$History" "states" "[LBorrowedHours$Game;" ∈ wsU := mU (t1m (List.mem_of_getElem? (i := 111) rfl)) rfl
theorem lf_X3_17 : Cond.fieldLink RX3 17 "BorrowedHours$History" "size" "I" ∈ wsU := mU (t1m (List.mem_of_getElem? (i := 112) rfl)) rfl
theorem lf_X9_181 : Cond.fieldLink RX9 181 "BorrowedHours$History" "size" "I" ∈ wsU := mU (t1m (List.mem_of_getElem? (i := 113) rfl)) rfl
theorem ly_X3_states : Cond.laysFinal "BorrowedHours$History" "BorrowedHours$History" "states" "[LBorrowedHours$Game;" ∈ wsU := mU (t1m (List.mem_of_getElem? (i := 114) rfl)) rfl
theorem ly_X3_size : Cond.lays "BorrowedHours$History" "BorrowedHours$History" "size" "I" ∈ wsU := mU (t1m (List.mem_of_getElem? (i := 116) rfl)) rfl
theorem ll_X9_23 : Cond.classLink RX9 23 RX7 ∈ wsU := mU (t1m (List.mem_of_getElem? (i := 119) rfl)) rfl
theorem lt_X7 : Cond.instantiable RX7 2 ∈ wsU := mU (t1m (List.mem_of_getElem? (i := 120) rfl)) rfl
theorem li_X7_init : Cond.instanceMethod yX7_init ∈ wsU := mU (t1m (List.mem_of_getElem? (i := 122) rfl)) rfl
theorem lc_X7_init : Cond.code yX7_init cX7_init 1 (Option.none : Option FieldType) ∈ wsU := mU (t1m (List.mem_of_getElem? (i := 123) rfl)) rfl
theorem lm_X7_1 : Cond.methodLink RX7 1 objectInit ∈ wsU := mU (t1m (List.mem_of_getElem? (i := 124) rfl)) rfl
theorem ll_X7_7 : Cond.classLink RX7 7 RX2 ∈ wsU := mU (t1m (List.mem_of_getElem? (i := 125) rfl)) rfl
theorem lf_X7_10 : Cond.fieldLink RX7 10 "BorrowedHours$Slot" "saved" "LBorrowedHours$Game;" ∈ wsU := mU (t1m (List.mem_of_getElem? (i := 127) rfl)) rfl
theorem lf_X9_211 : Cond.fieldLink RX9 211 "BorrowedHours$Slot" "saved" "LBorrowedHours$Game;" ∈ wsU := mU (t1m (List.mem_of_getElem? (i := 128) rfl)) rfl
theorem lf_X9_217 : Cond.fieldLink RX9 217 "BorrowedHours$Slot" "filled" "Z" ∈ wsU := mU (t1m (List.mem_of_getElem? (i := 129) rfl)) rfl
theorem ly_X7_saved : Cond.laysFinal "BorrowedHours$Slot" "BorrowedHours$Slot" "saved" "LBorrowedHours$Game;" ∈ wsU := mU (t1m (List.mem_of_getElem? (i := 130) rfl)) rfl
theorem ly_X7_filled : Cond.lays "BorrowedHours$Slot" "BorrowedHours$Slot" "filled" "Z" ∈ wsU := mU (t1m (List.mem_of_getElem? (i := 132) rfl)) rfl
theorem ll_X9_33 : Cond.classLink RX9 33 RX5 ∈ wsU := mU (t1m (List.mem_of_getElem? (i := 135) rfl)) rfl
theorem lt_X5 : Cond.instantiable RX5 2 ∈ wsU := mU (t1m (List.mem_of_getElem? (i := 136) rfl)) rfl
theorem li_X5_init : Cond.instanceMethod yX5_init ∈ wsU := mU (t1m (List.mem_of_getElem? (i := 138) rfl)) rfl
theorem lc_X5_init : Cond.code yX5_init cX5_init 1 (Option.none : Option FieldType) ∈ wsU := mU (t1m (List.mem_of_getElem? (i := 139) rfl)) rfl
theorem lm_X5_3 : Cond.methodLink RX5 3 objectInit ∈ wsU := mU (t1m (List.mem_of_getElem? (i := 140) rfl)) rfl
theorem lf_X5_9 : Cond.fieldLink RX5 9 "BorrowedHours$Pad" "signs" "[I" ∈ wsU := mU (t1m (List.mem_of_getElem? (i := 141) rfl)) rfl
theorem lf_X5_17 : Cond.fieldLink RX5 17 "BorrowedHours$Pad" "length" "I" ∈ wsU := mU (t1m (List.mem_of_getElem? (i := 142) rfl)) rfl
theorem lf_X9_178 : Cond.fieldLink RX9 178 "BorrowedHours$Pad" "length" "I" ∈ wsU := mU (t1m (List.mem_of_getElem? (i := 143) rfl)) rfl
theorem ly_X5_signs : Cond.laysFinal "BorrowedHours$Pad" "BorrowedHours$Pad" "signs" "[I" ∈ wsU := mU (t1m (List.mem_of_getElem? (i := 144) rfl)) rfl
theorem ly_X5_length : Cond.lays "BorrowedHours$Pad" "BorrowedHours$Pad" "length" "I" ∈ wsU := mU (t1m (List.mem_of_getElem? (i := 146) rfl)) rfl
theorem la_int : Cond.arrayClass .int ∈ wsU := mU (t1m (List.mem_of_getElem? (i := 149) rfl)) rfl
theorem ll_X9_40 : Cond.classLink RX9 40 RX4 ∈ wsU := mU (t1m (List.mem_of_getElem? (i := 150) rfl)) rfl
theorem lt_X4 : Cond.instantiable RX4 1 ∈ wsU := mU (t1m (List.mem_of_getElem? (i := 151) rfl)) rfl
theorem li_X4_init : Cond.instanceMethod yX4_init ∈ wsU := mU (t1m (List.mem_of_getElem? (i := 153) rfl)) rfl
theorem lc_X4_init : Cond.code yX4_init cX4_init 1 (Option.none : Option FieldType) ∈ wsU := mU (t1m (List.mem_of_getElem? (i := 154) rfl)) rfl
theorem lm_X4_5 : Cond.methodLink RX4 5 objectInit ∈ wsU := mU (t1m (List.mem_of_getElem? (i := 155) rfl)) rfl
theorem ll_X4_11 : Cond.classLink RX4 11 RX8 ∈ wsU := mU (t1m (List.mem_of_getElem? (i := 156) rfl)) rfl
theorem lf_X4_13 : Cond.fieldLink RX4 13 "BorrowedHours$Memory" "tables" "[LBorrowedHours$Times;" ∈ wsU := mU (t1m (List.mem_of_getElem? (i := 158) rfl)) rfl
theorem ly_X4_tables : Cond.laysFinal "BorrowedHours$Memory" "BorrowedHours$Memory" "tables" "[LBorrowedHours$Times;" ∈ wsU := mU (t1m (List.mem_of_getElem? (i := 159) rfl)) rfl
theorem ll_X9_47 : Cond.classLink RX9 47 RX0 ∈ wsU := mU (t1m (List.mem_of_getElem? (i := 162) rfl)) rfl
theorem lt_X0 : Cond.instantiable RX0 1 ∈ wsU := mU (t1m (List.mem_of_getElem? (i := 163) rfl)) rfl
theorem lm_X9_49 : Cond.methodLink RX9 49 yX0_init ∈ wsU := mU (t1m (List.mem_of_getElem? (i := 164) rfl)) rfl
theorem li_X0_init : Cond.instanceMethod yX0_init ∈ wsU := mU (t1m (List.mem_of_getElem? (i := 165) rfl)) rfl
theorem lc_X0_init : Cond.code yX0_init cX0_init 2 (Option.none : Option FieldType) ∈ wsU := mU (t1m (List.mem_of_getElem? (i := 166) rfl)) rfl
theorem lm_X0_3 : Cond.methodLink RX0 3 objectInit ∈ wsU := mU (t1m (List.mem_of_getElem? (i := 167) rfl)) rfl
theorem lf_X0_9 : Cond.fieldLink RX0 9 "BorrowedHours$Advice" "game" "LBorrowedHours$Game;" ∈ wsU := mU (t1m (List.mem_of_getElem? (i := 168) rfl)) rfl
theorem ly_X0_game : Cond.laysFinal "BorrowedHours$Advice" "BorrowedHours$Advice" "game" "LBorrowedHours$Game;" ∈ wsU := mU (t1m (List.mem_of_getElem? (i := 169) rfl)) rfl
theorem ll_X9_56 : Cond.classLink RX9 56 RX1 ∈ wsU := mU (t1m (List.mem_of_getElem? (i := 172) rfl)) rfl
theorem lt_X1 : Cond.instantiable RX1 1 ∈ wsU := mU (t1m (List.mem_of_getElem? (i := 173) rfl)) rfl
theorem lm_X9_58 : Cond.methodLink RX9 58 yX1_init ∈ wsU := mU (t1m (List.mem_of_getElem? (i := 174) rfl)) rfl
theorem li_X1_init : Cond.instanceMethod yX1_init ∈ wsU := mU (t1m (List.mem_of_getElem? (i := 175) rfl)) rfl
theorem lc_X1_init : Cond.code yX1_init cX1_init 2 (Option.none : Option FieldType) ∈ wsU := mU (t1m (List.mem_of_getElem? (i := 176) rfl)) rfl
theorem lm_X1_3 : Cond.methodLink RX1 3 objectInit ∈ wsU := mU (t1m (List.mem_of_getElem? (i := 177) rfl)) rfl
theorem lf_X1_9 : Cond.fieldLink RX1 9 "BorrowedHours$Foresight" "game" "LBorrowedHours$Game;" ∈ wsU := mU (t1m (List.mem_of_getElem? (i := 178) rfl)) rfl
theorem ly_X1_game : Cond.laysFinal "BorrowedHours$Foresight" "BorrowedHours$Foresight" "game" "LBorrowedHours$Game;" ∈ wsU := mU (t1m (List.mem_of_getElem? (i := 179) rfl)) rfl
theorem lf_X9_12 : Cond.fieldLink RX9 12 "BorrowedHours" "game" "LBorrowedHours$Game;" ∈ wsU := mU (t1m (List.mem_of_getElem? (i := 182) rfl)) rfl
theorem lf_X9_19 : Cond.fieldLink RX9 19 "BorrowedHours" "history" "LBorrowedHours$History;" ∈ wsU := mU (t1m (List.mem_of_getElem? (i := 183) rfl)) rfl
theorem lf_X9_26 : Cond.fieldLink RX9 26 "BorrowedHours" "slotZero" "LBorrowedHours$Slot;" ∈ wsU := mU (t1m (List.mem_of_getElem? (i := 184) rfl)) rfl
theorem lf_X9_30 : Cond.fieldLink RX9 30 "BorrowedHours" "slotOne" "LBorrowedHours$Slot;" ∈ wsU := mU (t1m (List.mem_of_getElem? (i := 185) rfl)) rfl
theorem lf_X9_36 : Cond.fieldLink RX9 36 "BorrowedHours" "pad" "LBorrowedHours$Pad;" ∈ wsU := mU (t1m (List.mem_of_getElem? (i := 186) rfl)) rfl
theorem lf_X9_43 : Cond.fieldLink RX9 43 "BorrowedHours" "memory" "LBorrowedHours$Memory;" ∈ wsU := mU (t1m (List.mem_of_getElem? (i := 187) rfl)) rfl
theorem lf_X9_52 : Cond.fieldLink RX9 52 "BorrowedHours" "advice" "LBorrowedHours$Advice;" ∈ wsU := mU (t1m (List.mem_of_getElem? (i := 188) rfl)) rfl
theorem lf_X9_59 : Cond.fieldLink RX9 59 "BorrowedHours" "foresight" "LBorrowedHours$Foresight;" ∈ wsU := mU (t1m (List.mem_of_getElem? (i := 189) rfl)) rfl
theorem ly_X9_game : Cond.laysFinal "BorrowedHours" "BorrowedHours" "game" "LBorrowedHours$Game;" ∈ wsU := mU (t1m (List.mem_of_getElem? (i := 190) rfl)) rfl
theorem ly_X9_history : Cond.laysFinal "BorrowedHours" "BorrowedHours" "history" "LBorrowedHours$History;" ∈ wsU := mU (t1m (List.mem_of_getElem? (i := 192) rfl)) rfl
theorem ly_X9_slotZero : Cond.laysFinal "BorrowedHours" "BorrowedHours" "slotZero" "LBorrowedHours$Slot;" ∈ wsU := mU (t1m (List.mem_of_getElem? (i := 194) rfl)) rfl
theorem ly_X9_slotOne : Cond.laysFinal "BorrowedHours" "BorrowedHours" "slotOne" "LBorrowedHours$Slot;" ∈ wsU := mU (t1m (List.mem_of_getElem? (i := 196) rfl)) rfl
theorem ly_X9_pad : Cond.laysFinal "BorrowedHours" "BorrowedHours" "pad" "LBorrowedHours$Pad;" ∈ wsU := mU (t1m (List.mem_of_getElem? (i := 198) rfl)) rfl
theorem ly_X9_memory : Cond.laysFinal "BorrowedHours" "BorrowedHours" "memory" "LBorrowedHours$Memory;" ∈ wsU := mU (t1m (List.mem_of_getElem? (i := 200) rfl)) rfl
theorem ly_X9_advice : Cond.laysFinal "BorrowedHours" "BorrowedHours" "advice" "LBorrowedHours$Advice;" ∈ wsU := mU (t1m (List.mem_of_getElem? (i := 202) rfl)) rfl
theorem ly_X9_foresight : Cond.laysFinal "BorrowedHours" "BorrowedHours" "foresight" "LBorrowedHours$Foresight;" ∈ wsU := mU (t1m (List.mem_of_getElem? (i := 204) rfl)) rfl
theorem lm_L_13 : Cond.methodLink RL 13 yX9_set ∈ wsU := mU (t1m (List.mem_of_getElem? (i := 207) rfl)) rfl
theorem li_X9_set : Cond.instanceMethod yX9_set ∈ wsU := mU (t1m (List.mem_of_getElem? (i := 208) rfl)) rfl
theorem lv_X9_set : Cond.selects RX9 yX9_set yX9_set ∈ wsU := mU (t1m (List.mem_of_getElem? (i := 209) rfl)) rfl
theorem lc_X9_set : Cond.code yX9_set cX9_set 4 (Option.some FieldType.int) ∈ wsU := mU (t1m (List.mem_of_getElem? (i := 210) rfl)) rfl
theorem lm_X9_63 : Cond.methodLink RX9 63 yX9_isSetting ∈ wsU := mU (t1m (List.mem_of_getElem? (i := 211) rfl)) rfl
theorem ls_X9_isSetting : Cond.static yX9_isSetting ∈ wsU := mU (t1m (List.mem_of_getElem? (i := 212) rfl)) rfl
theorem lc_X9_isSetting : Cond.code yX9_isSetting cX9_isSetting 1 (Option.some FieldType.boolean) ∈ wsU := mU (t1m (List.mem_of_getElem? (i := 213) rfl)) rfl
theorem lm_X9_87 : Cond.methodLink RX9 87 yX9_isBetween ∈ wsU := mU (t1m (List.mem_of_getElem? (i := 214) rfl)) rfl
theorem ls_X9_isBetween : Cond.static yX9_isBetween ∈ wsU := mU (t1m (List.mem_of_getElem? (i := 215) rfl)) rfl
theorem lc_X9_isBetween : Cond.code yX9_isBetween cX9_isBetween 3 (Option.some FieldType.boolean) ∈ wsU := mU (t1m (List.mem_of_getElem? (i := 216) rfl)) rfl
theorem lm_X9_67 : Cond.methodLink RX9 67 yX9_leastSetting ∈ wsU := mU (t1m (List.mem_of_getElem? (i := 217) rfl)) rfl
theorem ls_X9_leastSetting : Cond.static yX9_leastSetting ∈ wsU := mU (t1m (List.mem_of_getElem? (i := 218) rfl)) rfl
theorem lc_X9_leastSetting : Cond.code yX9_leastSetting cX9_leastSetting 1 (Option.some FieldType.int) ∈ wsU := mU (t1m (List.mem_of_getElem? (i := 219) rfl)) rfl
theorem lm_X9_71 : Cond.methodLink RX9 71 yX9_mostSetting ∈ wsU := mU (t1m (List.mem_of_getElem? (i := 220) rfl)) rfl
theorem ls_X9_mostSetting : Cond.static yX9_mostSetting ∈ wsU := mU (t1m (List.mem_of_getElem? (i := 221) rfl)) rfl
theorem lc_X9_mostSetting : Cond.code yX9_mostSetting cX9_mostSetting 1 (Option.some FieldType.int) ∈ wsU := mU (t1m (List.mem_of_getElem? (i := 222) rfl)) rfl
theorem lm_X9_74 : Cond.methodLink RX9 74 yX2_settingOf ∈ wsU := mU (t1m (List.mem_of_getElem? (i := 223) rfl)) rfl
theorem li_X2_settingOf : Cond.instanceMethod yX2_settingOf ∈ wsU := mU (t1m (List.mem_of_getElem? (i := 224) rfl)) rfl
theorem lv_X2_settingOf : Cond.selects RX2 yX2_settingOf yX2_settingOf ∈ wsU := mU (t1m (List.mem_of_getElem? (i := 225) rfl)) rfl
theorem lc_X2_settingOf : Cond.code yX2_settingOf cX2_settingOf 2 (Option.some FieldType.int) ∈ wsU := mU (t1m (List.mem_of_getElem? (i := 226) rfl)) rfl
theorem lm_X9_77 : Cond.methodLink RX9 77 yX3_keepState ∈ wsU := mU (t1m (List.mem_of_getElem? (i := 227) rfl)) rfl
theorem li_X3_keepState : Cond.instanceMethod yX3_keepState ∈ wsU := mU (t1m (List.mem_of_getElem? (i := 228) rfl)) rfl
theorem lv_X3_keepState : Cond.selects RX3 yX3_keepState yX3_keepState ∈ wsU := mU (t1m (List.mem_of_getElem? (i := 229) rfl)) rfl
theorem lc_X3_keepState : Cond.code yX3_keepState cX3_keepState 2 (Option.none : Option FieldType) ∈ wsU := mU (t1m (List.mem_of_getElem? (i := 230) rfl)) rfl
theorem lm_X3_21 : Cond.methodLink RX3 21 yX3_dropOldest ∈ wsU := mU (t1m (List.mem_of_getElem? (i := 231) rfl)) rfl
theorem li_X3_dropOldest : Cond.instanceMethod yX3_dropOldest ∈ wsU := mU (t1m (List.mem_of_getElem? (i := 233) rfl)) rfl
theorem lc_X3_dropOldest : Cond.code yX3_dropOldest cX3_dropOldest 3 (Option.none : Option FieldType) ∈ wsU := mU (t1m (List.mem_of_getElem? (i := 234) rfl)) rfl
theorem lm_X3_25 : Cond.methodLink RX3 25 yX2_copyFrom ∈ wsU := mU (t1m (List.mem_of_getElem? (i := 236) rfl)) rfl
theorem li_X2_copyFrom : Cond.instanceMethod yX2_copyFrom ∈ wsU := mU (t1m (List.mem_of_getElem? (i := 237) rfl)) rfl
theorem lv_X2_copyFrom : Cond.selects RX2 yX2_copyFrom yX2_copyFrom ∈ wsU := mU (t1m (List.mem_of_getElem? (i := 238) rfl)) rfl
theorem lc_X2_copyFrom : Cond.code yX2_copyFrom cX2_copyFrom 2 (Option.none : Option FieldType) ∈ wsU := mU (t1m (List.mem_of_getElem? (i := 239) rfl)) rfl
theorem lm_X2_46 : Cond.methodLink RX2 46 yX6_copyFrom ∈ wsU := mU (t2m (List.mem_of_getElem? (i := 0) rfl)) rfl
theorem li_X6_copyFrom : Cond.instanceMethod yX6_copyFrom ∈ wsU := mU (t2m (List.mem_of_getElem? (i := 1) rfl)) rfl
theorem lv_X6_copyFrom : Cond.selects RX6 yX6_copyFrom yX6_copyFrom ∈ wsU := mU (t2m (List.mem_of_getElem? (i := 2) rfl)) rfl
theorem lc_X6_copyFrom : Cond.code yX6_copyFrom cX6_copyFrom 2 (Option.none : Option FieldType) ∈ wsU := mU (t2m (List.mem_of_getElem? (i := 3) rfl)) rfl
theorem lm_X9_80 : Cond.methodLink RX9 80 yX2_changeSetting ∈ wsU := mU (t2m (List.mem_of_getElem? (i := 4) rfl)) rfl
theorem li_X2_changeSetting : Cond.instanceMethod yX2_changeSetting ∈ wsU := mU (t2m (List.mem_of_getElem? (i := 5) rfl)) rfl
theorem lv_X2_changeSetting : Cond.selects RX2 yX2_changeSetting yX2_changeSetting ∈ wsU := mU (t2m (List.mem_of_getElem? (i := 6) rfl)) rfl
theorem lc_X2_changeSetting : Cond.code yX2_changeSetting cX2_changeSetting 3 (Option.none : Option FieldType) ∈ wsU := mU (t2m (List.mem_of_getElem? (i := 7) rfl)) rfl
theorem lm_X9_84 : Cond.methodLink RX9 84 yX2_startAnew ∈ wsU := mU (t2m (List.mem_of_getElem? (i := 8) rfl)) rfl
theorem li_X2_startAnew : Cond.instanceMethod yX2_startAnew ∈ wsU := mU (t2m (List.mem_of_getElem? (i := 9) rfl)) rfl
theorem lv_X2_startAnew : Cond.selects RX2 yX2_startAnew yX2_startAnew ∈ wsU := mU (t2m (List.mem_of_getElem? (i := 10) rfl)) rfl
theorem lc_X2_startAnew : Cond.code yX2_startAnew cX2_startAnew 1 (Option.none : Option FieldType) ∈ wsU := mU (t2m (List.mem_of_getElem? (i := 11) rfl)) rfl
theorem lm_X2_50 : Cond.methodLink RX2 50 yX6_startAnew ∈ wsU := mU (t2m (List.mem_of_getElem? (i := 12) rfl)) rfl
theorem li_X6_startAnew : Cond.instanceMethod yX6_startAnew ∈ wsU := mU (t2m (List.mem_of_getElem? (i := 13) rfl)) rfl
theorem lv_X6_startAnew : Cond.selects RX6 yX6_startAnew yX6_startAnew ∈ wsU := mU (t2m (List.mem_of_getElem? (i := 14) rfl)) rfl
theorem lc_X6_startAnew : Cond.code yX6_startAnew cX6_startAnew 1 (Option.none : Option FieldType) ∈ wsU := mU (t2m (List.mem_of_getElem? (i := 15) rfl)) rfl
theorem lm_L_18 : Cond.methodLink RL 18 yX9_begin ∈ wsU := mU (t2m (List.mem_of_getElem? (i := 16) rfl)) rfl
theorem li_X9_begin : Cond.instanceMethod yX9_begin ∈ wsU := mU (t2m (List.mem_of_getElem? (i := 17) rfl)) rfl
theorem lv_X9_begin : Cond.selects RX9 yX9_begin yX9_begin ∈ wsU := mU (t2m (List.mem_of_getElem? (i := 18) rfl)) rfl
theorem lc_X9_begin : Cond.code yX9_begin cX9_begin 4 (Option.some FieldType.int) ∈ wsU := mU (t2m (List.mem_of_getElem? (i := 19) rfl)) rfl
theorem lm_L_22 : Cond.methodLink RL 22 yX9_round ∈ wsU := mU (t2m (List.mem_of_getElem? (i := 20) rfl)) rfl
theorem li_X9_round : Cond.instanceMethod yX9_round ∈ wsU := mU (t2m (List.mem_of_getElem? (i := 21) rfl)) rfl
theorem lv_X9_round : Cond.selects RX9 yX9_round yX9_round ∈ wsU := mU (t2m (List.mem_of_getElem? (i := 22) rfl)) rfl
theorem lc_X9_round : Cond.code yX9_round cX9_round 3 (Option.some FieldType.int) ∈ wsU := mU (t2m (List.mem_of_getElem? (i := 23) rfl)) rfl
theorem lm_X9_107 : Cond.methodLink RX9 107 yX2_allows ∈ wsU := mU (t2m (List.mem_of_getElem? (i := 24) rfl)) rfl
theorem li_X2_allows : Cond.instanceMethod yX2_allows ∈ wsU := mU (t2m (List.mem_of_getElem? (i := 25) rfl)) rfl
theorem lv_X2_allows : Cond.selects RX2 yX2_allows yX2_allows ∈ wsU := mU (t2m (List.mem_of_getElem? (i := 26) rfl)) rfl
theorem lc_X2_allows : Cond.code yX2_allows cX2_allows 3 (Option.some FieldType.boolean) ∈ wsU := mU (t2m (List.mem_of_getElem? (i := 27) rfl)) rfl
theorem lm_X2_64 : Cond.methodLink RX2 64 yX2_isOver ∈ wsU := mU (t2m (List.mem_of_getElem? (i := 28) rfl)) rfl
theorem li_X2_isOver : Cond.instanceMethod yX2_isOver ∈ wsU := mU (t2m (List.mem_of_getElem? (i := 29) rfl)) rfl
theorem lv_X2_isOver : Cond.selects RX2 yX2_isOver yX2_isOver ∈ wsU := mU (t2m (List.mem_of_getElem? (i := 30) rfl)) rfl
theorem lc_X2_isOver : Cond.code yX2_isOver cX2_isOver 1 (Option.some FieldType.boolean) ∈ wsU := mU (t2m (List.mem_of_getElem? (i := 31) rfl)) rfl
theorem lm_X2_53 : Cond.methodLink RX2 53 yX2_winner ∈ wsU := mU (t2m (List.mem_of_getElem? (i := 32) rfl)) rfl
theorem li_X2_winner : Cond.instanceMethod yX2_winner ∈ wsU := mU (t2m (List.mem_of_getElem? (i := 33) rfl)) rfl
theorem lv_X2_winner : Cond.selects RX2 yX2_winner yX2_winner ∈ wsU := mU (t2m (List.mem_of_getElem? (i := 34) rfl)) rfl
theorem lc_X2_winner : Cond.code yX2_winner cX2_winner 1 (Option.some FieldType.int) ∈ wsU := mU (t2m (List.mem_of_getElem? (i := 35) rfl)) rfl
theorem lm_X2_68 : Cond.methodLink RX2 68 yX2_mostOf ∈ wsU := mU (t2m (List.mem_of_getElem? (i := 36) rfl)) rfl
theorem li_X2_mostOf : Cond.instanceMethod yX2_mostOf ∈ wsU := mU (t2m (List.mem_of_getElem? (i := 37) rfl)) rfl
theorem lv_X2_mostOf : Cond.selects RX2 yX2_mostOf yX2_mostOf ∈ wsU := mU (t2m (List.mem_of_getElem? (i := 38) rfl)) rfl
theorem lc_X2_mostOf : Cond.code yX2_mostOf cX2_mostOf 2 (Option.some FieldType.int) ∈ wsU := mU (t2m (List.mem_of_getElem? (i := 39) rfl)) rfl
theorem lm_X2_57 : Cond.methodLink RX2 57 yX2_sideOf ∈ wsU := mU (t2m (List.mem_of_getElem? (i := 40) rfl)) rfl
theorem li_X2_sideOf : Cond.instanceMethod yX2_sideOf ∈ wsU := mU (t2m (List.mem_of_getElem? (i := 41) rfl)) rfl
theorem lv_X2_sideOf : Cond.selects RX2 yX2_sideOf yX2_sideOf ∈ wsU := mU (t2m (List.mem_of_getElem? (i := 42) rfl)) rfl
theorem lc_X2_sideOf : Cond.code yX2_sideOf cX2_sideOf 2 (Option.some (FieldType.object "BorrowedHours$Side")) ∈ wsU := mU (t2m (List.mem_of_getElem? (i := 43) rfl)) rfl
theorem lm_X9_111 : Cond.methodLink RX9 111 yX2_playRound ∈ wsU := mU (t2m (List.mem_of_getElem? (i := 44) rfl)) rfl
theorem li_X2_playRound : Cond.instanceMethod yX2_playRound ∈ wsU := mU (t2m (List.mem_of_getElem? (i := 45) rfl)) rfl
theorem lv_X2_playRound : Cond.selects RX2 yX2_playRound yX2_playRound ∈ wsU := mU (t2m (List.mem_of_getElem? (i := 46) rfl)) rfl
theorem lc_X2_playRound : Cond.code yX2_playRound cX2_playRound 7 (Option.some FieldType.int) ∈ wsU := mU (t2m (List.mem_of_getElem? (i := 47) rfl)) rfl
theorem lm_X2_72 : Cond.methodLink RX2 72 yX2_takerOf ∈ wsU := mU (t2m (List.mem_of_getElem? (i := 48) rfl)) rfl
theorem li_X2_takerOf : Cond.instanceMethod yX2_takerOf ∈ wsU := mU (t2m (List.mem_of_getElem? (i := 49) rfl)) rfl
theorem lv_X2_takerOf : Cond.selects RX2 yX2_takerOf yX2_takerOf ∈ wsU := mU (t2m (List.mem_of_getElem? (i := 50) rfl)) rfl
theorem lc_X2_takerOf : Cond.code yX2_takerOf cX2_takerOf 4 (Option.some FieldType.int) ∈ wsU := mU (t2m (List.mem_of_getElem? (i := 51) rfl)) rfl
theorem lm_X2_82 : Cond.methodLink RX2 82 yX2_gainOf ∈ wsU := mU (t2m (List.mem_of_getElem? (i := 52) rfl)) rfl
theorem li_X2_gainOf : Cond.instanceMethod yX2_gainOf ∈ wsU := mU (t2m (List.mem_of_getElem? (i := 53) rfl)) rfl
theorem lv_X2_gainOf : Cond.selects RX2 yX2_gainOf yX2_gainOf ∈ wsU := mU (t2m (List.mem_of_getElem? (i := 54) rfl)) rfl
theorem lc_X2_gainOf : Cond.code yX2_gainOf cX2_gainOf 2 (Option.some FieldType.int) ∈ wsU := mU (t2m (List.mem_of_getElem? (i := 55) rfl)) rfl
theorem lm_L_26 : Cond.methodLink RL 26 yX9_play ∈ wsU := mU (t2m (List.mem_of_getElem? (i := 56) rfl)) rfl
theorem li_X9_play : Cond.instanceMethod yX9_play ∈ wsU := mU (t2m (List.mem_of_getElem? (i := 57) rfl)) rfl
theorem lv_X9_play : Cond.selects RX9 yX9_play yX9_play ∈ wsU := mU (t2m (List.mem_of_getElem? (i := 58) rfl)) rfl
theorem lc_X9_play : Cond.code yX9_play cX9_play 4 (Option.some FieldType.int) ∈ wsU := mU (t2m (List.mem_of_getElem? (i := 59) rfl)) rfl
theorem lm_X9_115 : Cond.methodLink RX9 115 yX2_isOver ∈ wsU := mU (t2m (List.mem_of_getElem? (i := 60) rfl)) rfl
theorem lm_X9_119 : Cond.methodLink RX9 119 yX9_timesNow ∈ wsU := mU (t2m (List.mem_of_getElem? (i := 61) rfl)) rfl
theorem li_X9_timesNow : Cond.instanceMethod yX9_timesNow ∈ wsU := mU (t2m (List.mem_of_getElem? (i := 63) rfl)) rfl
theorem lc_X9_timesNow : Cond.code yX9_timesNow cX9_timesNow 1 (Option.some (FieldType.object "BorrowedHours$Times")) ∈ wsU := mU (t2m (List.mem_of_getElem? (i := 64) rfl)) rfl
theorem lm_X9_151 : Cond.methodLink RX9 151 yX2_mostOf ∈ wsU := mU (t2m (List.mem_of_getElem? (i := 65) rfl)) rfl
theorem lm_X9_221 : Cond.methodLink RX9 221 yX4_tableFor ∈ wsU := mU (t2m (List.mem_of_getElem? (i := 66) rfl)) rfl
theorem li_X4_tableFor : Cond.instanceMethod yX4_tableFor ∈ wsU := mU (t2m (List.mem_of_getElem? (i := 67) rfl)) rfl
theorem lv_X4_tableFor : Cond.selects RX4 yX4_tableFor yX4_tableFor ∈ wsU := mU (t2m (List.mem_of_getElem? (i := 68) rfl)) rfl
theorem lc_X4_tableFor : Cond.code yX4_tableFor cX4_tableFor 10 (Option.some (FieldType.object "BorrowedHours$Times")) ∈ wsU := mU (t2m (List.mem_of_getElem? (i := 69) rfl)) rfl
theorem lm_X4_23 : Cond.methodLink RX4 23 ⟨"java/lang/Math", "min", "(II)I"⟩ ∈ wsU := mU (t2m (List.mem_of_getElem? (i := 70) rfl)) rfl
theorem ls_min_Math : Cond.static ⟨"java/lang/Math", "min", "(II)I"⟩ ∈ wsU := mU (t2m (List.mem_of_getElem? (i := 71) rfl)) rfl
theorem lc_min_Math : Cond.code ⟨"java/lang/Math", "min", "(II)I"⟩ prog_13_method_69_code 2 (Option.some FieldType.int) ∈ wsU := mU (t2m (List.mem_of_getElem? (i := 72) rfl)) rfl
theorem lm_X4_29 : Cond.methodLink RX4 29 ⟨"java/lang/Math", "max", "(II)I"⟩ ∈ wsU := mU (t2m (List.mem_of_getElem? (i := 73) rfl)) rfl
theorem ls_max_Math : Cond.static ⟨"java/lang/Math", "max", "(II)I"⟩ ∈ wsU := mU (t2m (List.mem_of_getElem? (i := 74) rfl)) rfl
theorem lc_max_Math : Cond.code ⟨"java/lang/Math", "max", "(II)I"⟩ prog_13_method_65_code 2 (Option.some FieldType.int) ∈ wsU := mU (t2m (List.mem_of_getElem? (i := 75) rfl)) rfl
theorem lt_X8 : Cond.instantiable RX8 7 ∈ wsU := mU (t2m (List.mem_of_getElem? (i := 76) rfl)) rfl
theorem lm_X4_38 : Cond.methodLink RX4 38 yX8_init ∈ wsU := mU (t2m (List.mem_of_getElem? (i := 77) rfl)) rfl
theorem li_X8_init : Cond.instanceMethod yX8_init ∈ wsU := mU (t2m (List.mem_of_getElem? (i := 78) rfl)) rfl
theorem lc_X8_init : Cond.code yX8_init cX8_init 10 (Option.none : Option FieldType) ∈ wsU := mU (t2m (List.mem_of_getElem? (i := 79) rfl)) rfl
theorem lm_X8_3 : Cond.methodLink RX8 3 objectInit ∈ wsU := mU (t2m (List.mem_of_getElem? (i := 80) rfl)) rfl
theorem lm_X8_25 : Cond.methodLink RX8 25 ⟨"java/lang/Math", "max", "(II)I"⟩ ∈ wsU := mU (t2m (List.mem_of_getElem? (i := 81) rfl)) rfl
theorem lf_X8_9 : Cond.fieldLink RX8 9 "BorrowedHours$Times" "end" "I" ∈ wsU := mU (t2m (List.mem_of_getElem? (i := 82) rfl)) rfl
theorem lf_X8_15 : Cond.fieldLink RX8 15 "BorrowedHours$Times" "tie" "I" ∈ wsU := mU (t2m (List.mem_of_getElem? (i := 83) rfl)) rfl
theorem lf_X8_18 : Cond.fieldLink RX8 18 "BorrowedHours$Times" "sumStays" "Z" ∈ wsU := mU (t2m (List.mem_of_getElem? (i := 84) rfl)) rfl
theorem lf_X8_22 : Cond.fieldLink RX8 22 "BorrowedHours$Times" "top" "I" ∈ wsU := mU (t2m (List.mem_of_getElem? (i := 85) rfl)) rfl
theorem lf_X8_31 : Cond.fieldLink RX8 31 "BorrowedHours$Times" "owns" "[I" ∈ wsU := mU (t2m (List.mem_of_getElem? (i := 86) rfl)) rfl
theorem lf_X8_35 : Cond.fieldLink RX8 35 "BorrowedHours$Times" "foes" "[I" ∈ wsU := mU (t2m (List.mem_of_getElem? (i := 87) rfl)) rfl
theorem lf_X8_38 : Cond.fieldLink RX8 38 "BorrowedHours$Times" "times" "[I" ∈ wsU := mU (t2m (List.mem_of_getElem? (i := 88) rfl)) rfl
theorem ly_X8_end : Cond.laysFinal "BorrowedHours$Times" "BorrowedHours$Times" "end" "I" ∈ wsU := mU (t2m (List.mem_of_getElem? (i := 89) rfl)) rfl
theorem ly_X8_tie : Cond.laysFinal "BorrowedHours$Times" "BorrowedHours$Times" "tie" "I" ∈ wsU := mU (t2m (List.mem_of_getElem? (i := 91) rfl)) rfl
theorem ly_X8_sumStays : Cond.laysFinal "BorrowedHours$Times" "BorrowedHours$Times" "sumStays" "Z" ∈ wsU := mU (t2m (List.mem_of_getElem? (i := 93) rfl)) rfl
theorem ly_X8_top : Cond.laysFinal "BorrowedHours$Times" "BorrowedHours$Times" "top" "I" ∈ wsU := mU (t2m (List.mem_of_getElem? (i := 95) rfl)) rfl
theorem ly_X8_owns : Cond.laysFinal "BorrowedHours$Times" "BorrowedHours$Times" "owns" "[I" ∈ wsU := mU (t2m (List.mem_of_getElem? (i := 97) rfl)) rfl
theorem ly_X8_foes : Cond.laysFinal "BorrowedHours$Times" "BorrowedHours$Times" "foes" "[I" ∈ wsU := mU (t2m (List.mem_of_getElem? (i := 99) rfl)) rfl
theorem ly_X8_times : Cond.laysFinal "BorrowedHours$Times" "BorrowedHours$Times" "times" "[I" ∈ wsU := mU (t2m (List.mem_of_getElem? (i := 101) rfl)) rfl
theorem lm_X4_41 : Cond.methodLink RX4 41 yX8_learnAll ∈ wsU := mU (t2m (List.mem_of_getElem? (i := 104) rfl)) rfl
theorem li_X8_learnAll : Cond.instanceMethod yX8_learnAll ∈ wsU := mU (t2m (List.mem_of_getElem? (i := 105) rfl)) rfl
theorem lv_X8_learnAll : Cond.selects RX8 yX8_learnAll yX8_learnAll ∈ wsU := mU (t2m (List.mem_of_getElem? (i := 106) rfl)) rfl
theorem lc_X8_learnAll : Cond.code yX8_learnAll cX8_learnAll 3 (Option.none : Option FieldType) ∈ wsU := mU (t2m (List.mem_of_getElem? (i := 107) rfl)) rfl
theorem lm_X8_41 : Cond.methodLink RX8 41 yX8_learnRounds ∈ wsU := mU (t2m (List.mem_of_getElem? (i := 108) rfl)) rfl
theorem li_X8_learnRounds : Cond.instanceMethod yX8_learnRounds ∈ wsU := mU (t2m (List.mem_of_getElem? (i := 110) rfl)) rfl
theorem lc_X8_learnRounds : Cond.code yX8_learnRounds cX8_learnRounds 7 (Option.some FieldType.boolean) ∈ wsU := mU (t2m (List.mem_of_getElem? (i := 111) rfl)) rfl
theorem lm_X8_45 : Cond.methodLink RX8 45 yX8_bidForces ∈ wsU := mU (t2m (List.mem_of_getElem? (i := 112) rfl)) rfl
theorem li_X8_bidForces : Cond.instanceMethod yX8_bidForces ∈ wsU := mU (t2m (List.mem_of_getElem? (i := 114) rfl)) rfl
theorem lc_X8_bidForces : Cond.code yX8_bidForces cX8_bidForces 7 (Option.some FieldType.boolean) ∈ wsU := mU (t2m (List.mem_of_getElem? (i := 115) rfl)) rfl
theorem lm_X8_52 : Cond.methodLink RX8 52 yX8_lost ∈ wsU := mU (t2m (List.mem_of_getElem? (i := 116) rfl)) rfl
theorem li_X8_lost : Cond.instanceMethod yX8_lost ∈ wsU := mU (t2m (List.mem_of_getElem? (i := 118) rfl)) rfl
theorem lc_X8_lost : Cond.code yX8_lost cX8_lost 8 (Option.some FieldType.boolean) ∈ wsU := mU (t2m (List.mem_of_getElem? (i := 119) rfl)) rfl
theorem lm_X8_62 : Cond.methodLink RX8 62 yX8_timeAt ∈ wsU := mU (t2m (List.mem_of_getElem? (i := 120) rfl)) rfl
theorem li_X8_timeAt : Cond.instanceMethod yX8_timeAt ∈ wsU := mU (t2m (List.mem_of_getElem? (i := 121) rfl)) rfl
theorem lv_X8_timeAt : Cond.selects RX8 yX8_timeAt yX8_timeAt ∈ wsU := mU (t2m (List.mem_of_getElem? (i := 122) rfl)) rfl
theorem lc_X8_timeAt : Cond.code yX8_timeAt cX8_timeAt 7 (Option.some FieldType.int) ∈ wsU := mU (t2m (List.mem_of_getElem? (i := 123) rfl)) rfl
theorem lm_X8_56 : Cond.methodLink RX8 56 yX8_neverTakes ∈ wsU := mU (t2m (List.mem_of_getElem? (i := 124) rfl)) rfl
theorem li_X8_neverTakes : Cond.instanceMethod yX8_neverTakes ∈ wsU := mU (t2m (List.mem_of_getElem? (i := 126) rfl)) rfl
theorem lc_X8_neverTakes : Cond.code yX8_neverTakes cX8_neverTakes 2 (Option.some FieldType.boolean) ∈ wsU := mU (t2m (List.mem_of_getElem? (i := 127) rfl)) rfl
theorem lm_X8_59 : Cond.methodLink RX8 59 yX8_taken ∈ wsU := mU (t2m (List.mem_of_getElem? (i := 128) rfl)) rfl
theorem li_X8_taken : Cond.instanceMethod yX8_taken ∈ wsU := mU (t2m (List.mem_of_getElem? (i := 130) rfl)) rfl
theorem lc_X8_taken : Cond.code yX8_taken cX8_taken 8 (Option.some FieldType.boolean) ∈ wsU := mU (t2m (List.mem_of_getElem? (i := 131) rfl)) rfl
theorem lm_X8_49 : Cond.methodLink RX8 49 yX8_answerForces ∈ wsU := mU (t2m (List.mem_of_getElem? (i := 132) rfl)) rfl
theorem li_X8_answerForces : Cond.instanceMethod yX8_answerForces ∈ wsU := mU (t2m (List.mem_of_getElem? (i := 134) rfl)) rfl
theorem lc_X8_answerForces : Cond.code yX8_answerForces cX8_answerForces 7 (Option.some FieldType.boolean) ∈ wsU := mU (t2m (List.mem_of_getElem? (i := 135) rfl)) rfl
theorem lm_X9_123 : Cond.methodLink RX9 123 yX0_findBid ∈ wsU := mU (t2m (List.mem_of_getElem? (i := 136) rfl)) rfl
theorem li_X0_findBid : Cond.instanceMethod yX0_findBid ∈ wsU := mU (t2m (List.mem_of_getElem? (i := 137) rfl)) rfl
theorem lv_X0_findBid : Cond.selects RX0 yX0_findBid yX0_findBid ∈ wsU := mU (t2m (List.mem_of_getElem? (i := 138) rfl)) rfl
theorem lc_X0_findBid : Cond.code yX0_findBid cX0_findBid 7 (Option.some FieldType.int) ∈ wsU := mU (t2m (List.mem_of_getElem? (i := 139) rfl)) rfl
theorem lm_X0_21 : Cond.methodLink RX0 21 yX2_mostOf ∈ wsU := mU (t2m (List.mem_of_getElem? (i := 140) rfl)) rfl
theorem lm_X0_25 : Cond.methodLink RX0 25 yX0_longestOwn ∈ wsU := mU (t2m (List.mem_of_getElem? (i := 141) rfl)) rfl
theorem li_X0_longestOwn : Cond.instanceMethod yX0_longestOwn ∈ wsU := mU (t2m (List.mem_of_getElem? (i := 143) rfl)) rfl
theorem lc_X0_longestOwn : Cond.code yX0_longestOwn cX0_longestOwn 6 (Option.some FieldType.int) ∈ wsU := mU (t2m (List.mem_of_getElem? (i := 144) rfl)) rfl
theorem lm_X0_36 : Cond.methodLink RX0 36 yX0_timeBehind ∈ wsU := mU (t2m (List.mem_of_getElem? (i := 145) rfl)) rfl
theorem li_X0_timeBehind : Cond.instanceMethod yX0_timeBehind ∈ wsU := mU (t2m (List.mem_of_getElem? (i := 147) rfl)) rfl
theorem lc_X0_timeBehind : Cond.code yX0_timeBehind cX0_timeBehind 13 (Option.some FieldType.int) ∈ wsU := mU (t2m (List.mem_of_getElem? (i := 148) rfl)) rfl
theorem lm_X0_49 : Cond.methodLink RX0 49 yX2_takerOf ∈ wsU := mU (t2m (List.mem_of_getElem? (i := 149) rfl)) rfl
theorem lm_X0_52 : Cond.methodLink RX0 52 yX2_gainOf ∈ wsU := mU (t2m (List.mem_of_getElem? (i := 150) rfl)) rfl
theorem lm_X0_55 : Cond.methodLink RX0 55 yX2_toWin ∈ wsU := mU (t2m (List.mem_of_getElem? (i := 151) rfl)) rfl
theorem li_X2_toWin : Cond.instanceMethod yX2_toWin ∈ wsU := mU (t2m (List.mem_of_getElem? (i := 152) rfl)) rfl
theorem lv_X2_toWin : Cond.selects RX2 yX2_toWin yX2_toWin ∈ wsU := mU (t2m (List.mem_of_getElem? (i := 153) rfl)) rfl
theorem lc_X2_toWin : Cond.code yX2_toWin cX2_toWin 2 (Option.some FieldType.int) ∈ wsU := mU (t2m (List.mem_of_getElem? (i := 154) rfl)) rfl
theorem lm_X0_58 : Cond.methodLink RX0 58 yX8_timeAt ∈ wsU := mU (t2m (List.mem_of_getElem? (i := 155) rfl)) rfl
theorem lm_X0_40 : Cond.methodLink RX0 40 ⟨"java/lang/Math", "max", "(II)I"⟩ ∈ wsU := mU (t2m (List.mem_of_getElem? (i := 156) rfl)) rfl
theorem lm_X0_29 : Cond.methodLink RX0 29 yX0_findDelay ∈ wsU := mU (t2m (List.mem_of_getElem? (i := 157) rfl)) rfl
theorem li_X0_findDelay : Cond.instanceMethod yX0_findDelay ∈ wsU := mU (t2m (List.mem_of_getElem? (i := 159) rfl)) rfl
theorem lc_X0_findDelay : Cond.code yX0_findDelay cX0_findDelay 7 (Option.some FieldType.int) ∈ wsU := mU (t2m (List.mem_of_getElem? (i := 160) rfl)) rfl
theorem lm_X0_33 : Cond.methodLink RX0 33 yX0_leastOther ∈ wsU := mU (t2m (List.mem_of_getElem? (i := 161) rfl)) rfl
theorem li_X0_leastOther : Cond.instanceMethod yX0_leastOther ∈ wsU := mU (t2m (List.mem_of_getElem? (i := 163) rfl)) rfl
theorem lc_X0_leastOther : Cond.code yX0_leastOther cX0_leastOther 6 (Option.some FieldType.int) ∈ wsU := mU (t2m (List.mem_of_getElem? (i := 164) rfl)) rfl
theorem lm_X0_46 : Cond.methodLink RX0 46 ⟨"java/lang/Math", "min", "(II)I"⟩ ∈ wsU := mU (t2m (List.mem_of_getElem? (i := 165) rfl)) rfl
theorem lm_X9_127 : Cond.methodLink RX9 127 yX0_findAnswer ∈ wsU := mU (t2m (List.mem_of_getElem? (i := 166) rfl)) rfl
theorem li_X0_findAnswer : Cond.instanceMethod yX0_findAnswer ∈ wsU := mU (t2m (List.mem_of_getElem? (i := 167) rfl)) rfl
theorem lv_X0_findAnswer : Cond.selects RX0 yX0_findAnswer yX0_findAnswer ∈ wsU := mU (t2m (List.mem_of_getElem? (i := 168) rfl)) rfl
theorem lc_X0_findAnswer : Cond.code yX0_findAnswer cX0_findAnswer 11 (Option.some FieldType.int) ∈ wsU := mU (t2m (List.mem_of_getElem? (i := 169) rfl)) rfl
theorem lm_L_31 : Cond.methodLink RL 31 yX9_run ∈ wsU := mU (t2m (List.mem_of_getElem? (i := 170) rfl)) rfl
theorem li_X9_run : Cond.instanceMethod yX9_run ∈ wsU := mU (t2m (List.mem_of_getElem? (i := 171) rfl)) rfl
theorem lv_X9_run : Cond.selects RX9 yX9_run yX9_run ∈ wsU := mU (t2m (List.mem_of_getElem? (i := 172) rfl)) rfl
theorem lc_X9_run : Cond.code yX9_run cX9_run 2 (Option.some FieldType.int) ∈ wsU := mU (t2m (List.mem_of_getElem? (i := 173) rfl)) rfl
theorem lm_X9_131 : Cond.methodLink RX9 131 yX5_firstFault ∈ wsU := mU (t2m (List.mem_of_getElem? (i := 174) rfl)) rfl
theorem li_X5_firstFault : Cond.instanceMethod yX5_firstFault ∈ wsU := mU (t2m (List.mem_of_getElem? (i := 175) rfl)) rfl
theorem lv_X5_firstFault : Cond.selects RX5 yX5_firstFault yX5_firstFault ∈ wsU := mU (t2m (List.mem_of_getElem? (i := 176) rfl)) rfl
theorem lc_X5_firstFault : Cond.code yX5_firstFault cX5_firstFault 5 (Option.some FieldType.int) ∈ wsU := mU (t2m (List.mem_of_getElem? (i := 177) rfl)) rfl
theorem lm_X5_21 : Cond.methodLink RX5 21 yX5_signAt ∈ wsU := mU (t2m (List.mem_of_getElem? (i := 178) rfl)) rfl
theorem li_X5_signAt : Cond.instanceMethod yX5_signAt ∈ wsU := mU (t2m (List.mem_of_getElem? (i := 179) rfl)) rfl
theorem lv_X5_signAt : Cond.selects RX5 yX5_signAt yX5_signAt ∈ wsU := mU (t2m (List.mem_of_getElem? (i := 180) rfl)) rfl
theorem lc_X5_signAt : Cond.code yX5_signAt cX5_signAt 2 (Option.some FieldType.int) ∈ wsU := mU (t2m (List.mem_of_getElem? (i := 181) rfl)) rfl
theorem lm_X5_25 : Cond.methodLink RX5 25 yX5_canStandAsDigit ∈ wsU := mU (t2m (List.mem_of_getElem? (i := 182) rfl)) rfl
theorem ls_X5_canStandAsDigit : Cond.static yX5_canStandAsDigit ∈ wsU := mU (t2m (List.mem_of_getElem? (i := 183) rfl)) rfl
theorem lc_X5_canStandAsDigit : Cond.code yX5_canStandAsDigit cX5_canStandAsDigit 2 (Option.some FieldType.boolean) ∈ wsU := mU (t2m (List.mem_of_getElem? (i := 184) rfl)) rfl
theorem lm_X9_135 : Cond.methodLink RX9 135 yX9_playPad ∈ wsU := mU (t2m (List.mem_of_getElem? (i := 185) rfl)) rfl
theorem li_X9_playPad : Cond.instanceMethod yX9_playPad ∈ wsU := mU (t2m (List.mem_of_getElem? (i := 187) rfl)) rfl
theorem lc_X9_playPad : Cond.code yX9_playPad cX9_playPad 6 (Option.some FieldType.int) ∈ wsU := mU (t2m (List.mem_of_getElem? (i := 188) rfl)) rfl
theorem lm_X9_234 : Cond.methodLink RX9 234 yX5_signAt ∈ wsU := mU (t2m (List.mem_of_getElem? (i := 189) rfl)) rfl
theorem lm_X9_138 : Cond.methodLink RX9 138 yX5_clear ∈ wsU := mU (t2m (List.mem_of_getElem? (i := 190) rfl)) rfl
theorem li_X5_clear : Cond.instanceMethod yX5_clear ∈ wsU := mU (t2m (List.mem_of_getElem? (i := 191) rfl)) rfl
theorem lv_X5_clear : Cond.selects RX5 yX5_clear yX5_clear ∈ wsU := mU (t2m (List.mem_of_getElem? (i := 192) rfl)) rfl
theorem lc_X5_clear : Cond.code yX5_clear cX5_clear 1 (Option.none : Option FieldType) ∈ wsU := mU (t2m (List.mem_of_getElem? (i := 193) rfl)) rfl
theorem lm_L_35 : Cond.methodLink RL 35 yX9_player ∈ wsU := mU (t2m (List.mem_of_getElem? (i := 194) rfl)) rfl
theorem li_X9_player : Cond.instanceMethod yX9_player ∈ wsU := mU (t2m (List.mem_of_getElem? (i := 195) rfl)) rfl
theorem lv_X9_player : Cond.selects RX9 yX9_player yX9_player ∈ wsU := mU (t2m (List.mem_of_getElem? (i := 196) rfl)) rfl
theorem lc_X9_player : Cond.code yX9_player cX9_player 5 (Option.some FieldType.int) ∈ wsU := mU (t2m (List.mem_of_getElem? (i := 197) rfl)) rfl
theorem lm_X9_141 : Cond.methodLink RX9 141 yX9_isPlayer ∈ wsU := mU (t2m (List.mem_of_getElem? (i := 198) rfl)) rfl
theorem ls_X9_isPlayer : Cond.static yX9_isPlayer ∈ wsU := mU (t2m (List.mem_of_getElem? (i := 199) rfl)) rfl
theorem lc_X9_isPlayer : Cond.code yX9_isPlayer cX9_isPlayer 1 (Option.some FieldType.boolean) ∈ wsU := mU (t2m (List.mem_of_getElem? (i := 200) rfl)) rfl
theorem lm_X9_144 : Cond.methodLink RX9 144 yX2_sideOf ∈ wsU := mU (t2m (List.mem_of_getElem? (i := 201) rfl)) rfl
theorem lm_X9_163 : Cond.methodLink RX9 163 yX9_timeWith ∈ wsU := mU (t2m (List.mem_of_getElem? (i := 202) rfl)) rfl
theorem li_X9_timeWith : Cond.instanceMethod yX9_timeWith ∈ wsU := mU (t2m (List.mem_of_getElem? (i := 204) rfl)) rfl
theorem lc_X9_timeWith : Cond.code yX9_timeWith cX9_timeWith 5 (Option.some FieldType.int) ∈ wsU := mU (t2m (List.mem_of_getElem? (i := 205) rfl)) rfl
theorem lm_X9_225 : Cond.methodLink RX9 225 yX2_toWin ∈ wsU := mU (t2m (List.mem_of_getElem? (i := 206) rfl)) rfl
theorem lm_X9_228 : Cond.methodLink RX9 228 yX8_timeAt ∈ wsU := mU (t2m (List.mem_of_getElem? (i := 207) rfl)) rfl
theorem lm_L_39 : Cond.methodLink RL 39 yX9_count ∈ wsU := mU (t2m (List.mem_of_getElem? (i := 208) rfl)) rfl
theorem li_X9_count : Cond.instanceMethod yX9_count ∈ wsU := mU (t2m (List.mem_of_getElem? (i := 209) rfl)) rfl
theorem lv_X9_count : Cond.selects RX9 yX9_count yX9_count ∈ wsU := mU (t2m (List.mem_of_getElem? (i := 210) rfl)) rfl
theorem lc_X9_count : Cond.code yX9_count cX9_count 2 (Option.some FieldType.int) ∈ wsU := mU (t2m (List.mem_of_getElem? (i := 211) rfl)) rfl
theorem lm_X9_172 : Cond.methodLink RX9 172 yX2_winner ∈ wsU := mU (t2m (List.mem_of_getElem? (i := 212) rfl)) rfl
theorem lm_L_44 : Cond.methodLink RL 44 yX9_forced ∈ wsU := mU (t2m (List.mem_of_getElem? (i := 213) rfl)) rfl
theorem li_X9_forced : Cond.instanceMethod yX9_forced ∈ wsU := mU (t2m (List.mem_of_getElem? (i := 214) rfl)) rfl
theorem lv_X9_forced : Cond.selects RX9 yX9_forced yX9_forced ∈ wsU := mU (t2m (List.mem_of_getElem? (i := 215) rfl)) rfl
theorem lc_X9_forced : Cond.code yX9_forced cX9_forced 3 (Option.some FieldType.int) ∈ wsU := mU (t2m (List.mem_of_getElem? (i := 216) rfl)) rfl
theorem lm_L_48 : Cond.methodLink RL 48 yX9_ahead ∈ wsU := mU (t2m (List.mem_of_getElem? (i := 217) rfl)) rfl
theorem li_X9_ahead : Cond.instanceMethod yX9_ahead ∈ wsU := mU (t2m (List.mem_of_getElem? (i := 218) rfl)) rfl
theorem lv_X9_ahead : Cond.selects RX9 yX9_ahead yX9_ahead ∈ wsU := mU (t2m (List.mem_of_getElem? (i := 219) rfl)) rfl
theorem lc_X9_ahead : Cond.code yX9_ahead cX9_ahead 3 (Option.some FieldType.int) ∈ wsU := mU (t2m (List.mem_of_getElem? (i := 220) rfl)) rfl
theorem lm_X9_184 : Cond.methodLink RX9 184 yX1_seesWinOf ∈ wsU := mU (t2m (List.mem_of_getElem? (i := 221) rfl)) rfl
theorem li_X1_seesWinOf : Cond.instanceMethod yX1_seesWinOf ∈ wsU := mU (t2m (List.mem_of_getElem? (i := 222) rfl)) rfl
theorem lv_X1_seesWinOf : Cond.selects RX1 yX1_seesWinOf yX1_seesWinOf ∈ wsU := mU (t2m (List.mem_of_getElem? (i := 223) rfl)) rfl
theorem lc_X1_seesWinOf : Cond.code yX1_seesWinOf cX1_seesWinOf 5 (Option.some FieldType.boolean) ∈ wsU := mU (t2m (List.mem_of_getElem? (i := 224) rfl)) rfl
theorem lm_X1_15 : Cond.methodLink RX1 15 yX2_mostOf ∈ wsU := mU (t2m (List.mem_of_getElem? (i := 225) rfl)) rfl
theorem lm_X1_21 : Cond.methodLink RX1 21 ⟨"java/lang/Math", "min", "(II)I"⟩ ∈ wsU := mU (t2m (List.mem_of_getElem? (i := 226) rfl)) rfl
theorem lm_X1_27 : Cond.methodLink RX1 27 yX2_toWin ∈ wsU := mU (t2m (List.mem_of_getElem? (i := 227) rfl)) rfl
theorem lm_X1_34 : Cond.methodLink RX1 34 yX1_seesWin ∈ wsU := mU (t2m (List.mem_of_getElem? (i := 228) rfl)) rfl
theorem li_X1_seesWin : Cond.instanceMethod yX1_seesWin ∈ wsU := mU (t2m (List.mem_of_getElem? (i := 230) rfl)) rfl
theorem lc_X1_seesWin : Cond.code yX1_seesWin cX1_seesWin 6 (Option.some FieldType.boolean) ∈ wsU := mU (t2m (List.mem_of_getElem? (i := 231) rfl)) rfl
theorem lm_X1_41 : Cond.methodLink RX1 41 yX1_seesBid ∈ wsU := mU (t2m (List.mem_of_getElem? (i := 232) rfl)) rfl
theorem li_X1_seesBid : Cond.instanceMethod yX1_seesBid ∈ wsU := mU (t2m (List.mem_of_getElem? (i := 234) rfl)) rfl
theorem lc_X1_seesBid : Cond.code yX1_seesBid cX1_seesBid 6 (Option.some FieldType.boolean) ∈ wsU := mU (t2m (List.mem_of_getElem? (i := 235) rfl)) rfl
theorem lm_X1_48 : Cond.methodLink RX1 48 yX1_standsAllAnswers ∈ wsU := mU (t2m (List.mem_of_getElem? (i := 236) rfl)) rfl
theorem li_X1_standsAllAnswers : Cond.instanceMethod yX1_standsAllAnswers ∈ wsU := mU (t2m (List.mem_of_getElem? (i := 238) rfl)) rfl
theorem lc_X1_standsAllAnswers : Cond.code yX1_standsAllAnswers cX1_standsAllAnswers 7 (Option.some FieldType.boolean) ∈ wsU := mU (t2m (List.mem_of_getElem? (i := 239) rfl)) rfl
theorem lm_X1_52 : Cond.methodLink RX1 52 yX1_canTake ∈ wsU := mU (t3m (List.mem_of_getElem? (i := 0) rfl)) rfl
theorem li_X1_canTake : Cond.instanceMethod yX1_canTake ∈ wsU := mU (t3m (List.mem_of_getElem? (i := 2) rfl)) rfl
theorem lc_X1_canTake : Cond.code yX1_canTake cX1_canTake 2 (Option.some FieldType.boolean) ∈ wsU := mU (t3m (List.mem_of_getElem? (i := 3) rfl)) rfl
theorem lm_X1_56 : Cond.methodLink RX1 56 yX1_seesTaken ∈ wsU := mU (t3m (List.mem_of_getElem? (i := 4) rfl)) rfl
theorem li_X1_seesTaken : Cond.instanceMethod yX1_seesTaken ∈ wsU := mU (t3m (List.mem_of_getElem? (i := 6) rfl)) rfl
theorem lc_X1_seesTaken : Cond.code yX1_seesTaken cX1_seesTaken 7 (Option.some FieldType.boolean) ∈ wsU := mU (t3m (List.mem_of_getElem? (i := 7) rfl)) rfl
theorem lm_X1_72 : Cond.methodLink RX1 72 yX2_gainOf ∈ wsU := mU (t3m (List.mem_of_getElem? (i := 8) rfl)) rfl
theorem lm_X1_60 : Cond.methodLink RX1 60 yX1_leastTaking ∈ wsU := mU (t3m (List.mem_of_getElem? (i := 9) rfl)) rfl
theorem li_X1_leastTaking : Cond.instanceMethod yX1_leastTaking ∈ wsU := mU (t3m (List.mem_of_getElem? (i := 11) rfl)) rfl
theorem lc_X1_leastTaking : Cond.code yX1_leastTaking cX1_leastTaking 2 (Option.some FieldType.int) ∈ wsU := mU (t3m (List.mem_of_getElem? (i := 12) rfl)) rfl
theorem lm_X1_63 : Cond.methodLink RX1 63 yX1_seesLost ∈ wsU := mU (t3m (List.mem_of_getElem? (i := 13) rfl)) rfl
theorem li_X1_seesLost : Cond.instanceMethod yX1_seesLost ∈ wsU := mU (t3m (List.mem_of_getElem? (i := 15) rfl)) rfl
theorem lc_X1_seesLost : Cond.code yX1_seesLost cX1_seesLost 7 (Option.some FieldType.boolean) ∈ wsU := mU (t3m (List.mem_of_getElem? (i := 16) rfl)) rfl
theorem lm_X1_45 : Cond.methodLink RX1 45 yX1_seesAnswers ∈ wsU := mU (t3m (List.mem_of_getElem? (i := 17) rfl)) rfl
theorem li_X1_seesAnswers : Cond.instanceMethod yX1_seesAnswers ∈ wsU := mU (t3m (List.mem_of_getElem? (i := 19) rfl)) rfl
theorem lc_X1_seesAnswers : Cond.code yX1_seesAnswers cX1_seesAnswers 6 (Option.some FieldType.boolean) ∈ wsU := mU (t3m (List.mem_of_getElem? (i := 20) rfl)) rfl
theorem lm_X1_66 : Cond.methodLink RX1 66 yX1_hasAnswer ∈ wsU := mU (t3m (List.mem_of_getElem? (i := 21) rfl)) rfl
theorem li_X1_hasAnswer : Cond.instanceMethod yX1_hasAnswer ∈ wsU := mU (t3m (List.mem_of_getElem? (i := 23) rfl)) rfl
theorem lc_X1_hasAnswer : Cond.code yX1_hasAnswer cX1_hasAnswer 7 (Option.some FieldType.boolean) ∈ wsU := mU (t3m (List.mem_of_getElem? (i := 24) rfl)) rfl
theorem lm_L_52 : Cond.methodLink RL 52 yX9_bestBid ∈ wsU := mU (t3m (List.mem_of_getElem? (i := 25) rfl)) rfl
theorem li_X9_bestBid : Cond.instanceMethod yX9_bestBid ∈ wsU := mU (t3m (List.mem_of_getElem? (i := 26) rfl)) rfl
theorem lv_X9_bestBid : Cond.selects RX9 yX9_bestBid yX9_bestBid ∈ wsU := mU (t3m (List.mem_of_getElem? (i := 27) rfl)) rfl
theorem lc_X9_bestBid : Cond.code yX9_bestBid cX9_bestBid 1 (Option.some FieldType.int) ∈ wsU := mU (t3m (List.mem_of_getElem? (i := 28) rfl)) rfl
theorem lm_L_56 : Cond.methodLink RL 56 yX9_bestAnswer ∈ wsU := mU (t3m (List.mem_of_getElem? (i := 29) rfl)) rfl
theorem li_X9_bestAnswer : Cond.instanceMethod yX9_bestAnswer ∈ wsU := mU (t3m (List.mem_of_getElem? (i := 30) rfl)) rfl
theorem lv_X9_bestAnswer : Cond.selects RX9 yX9_bestAnswer yX9_bestAnswer ∈ wsU := mU (t3m (List.mem_of_getElem? (i := 31) rfl)) rfl
theorem lc_X9_bestAnswer : Cond.code yX9_bestAnswer cX9_bestAnswer 2 (Option.some FieldType.int) ∈ wsU := mU (t3m (List.mem_of_getElem? (i := 32) rfl)) rfl
theorem lm_L_60 : Cond.methodLink RL 60 yX9_keeps ∈ wsU := mU (t3m (List.mem_of_getElem? (i := 33) rfl)) rfl
theorem li_X9_keeps : Cond.instanceMethod yX9_keeps ∈ wsU := mU (t3m (List.mem_of_getElem? (i := 34) rfl)) rfl
theorem lv_X9_keeps : Cond.selects RX9 yX9_keeps yX9_keeps ∈ wsU := mU (t3m (List.mem_of_getElem? (i := 35) rfl)) rfl
theorem lc_X9_keeps : Cond.code yX9_keeps cX9_keeps 1 (Option.some FieldType.int) ∈ wsU := mU (t3m (List.mem_of_getElem? (i := 36) rfl)) rfl
theorem lm_X9_187 : Cond.methodLink RX9 187 yX0_countKeeping ∈ wsU := mU (t3m (List.mem_of_getElem? (i := 37) rfl)) rfl
theorem li_X0_countKeeping : Cond.instanceMethod yX0_countKeeping ∈ wsU := mU (t3m (List.mem_of_getElem? (i := 38) rfl)) rfl
theorem lv_X0_countKeeping : Cond.selects RX0 yX0_countKeeping yX0_countKeeping ∈ wsU := mU (t3m (List.mem_of_getElem? (i := 39) rfl)) rfl
theorem lc_X0_countKeeping : Cond.code yX0_countKeeping cX0_countKeeping 5 (Option.some FieldType.int) ∈ wsU := mU (t3m (List.mem_of_getElem? (i := 40) rfl)) rfl
theorem lm_L_64 : Cond.methodLink RL 64 yX9_leastHours ∈ wsU := mU (t3m (List.mem_of_getElem? (i := 41) rfl)) rfl
theorem li_X9_leastHours : Cond.instanceMethod yX9_leastHours ∈ wsU := mU (t3m (List.mem_of_getElem? (i := 42) rfl)) rfl
theorem lv_X9_leastHours : Cond.selects RX9 yX9_leastHours yX9_leastHours ∈ wsU := mU (t3m (List.mem_of_getElem? (i := 43) rfl)) rfl
theorem lc_X9_leastHours : Cond.code yX9_leastHours cX9_leastHours 3 (Option.some FieldType.int) ∈ wsU := mU (t3m (List.mem_of_getElem? (i := 44) rfl)) rfl
theorem lm_L_70 : Cond.methodLink RL 70 yX9_put ∈ wsU := mU (t3m (List.mem_of_getElem? (i := 45) rfl)) rfl
theorem li_X9_put : Cond.instanceMethod yX9_put ∈ wsU := mU (t3m (List.mem_of_getElem? (i := 46) rfl)) rfl
theorem lv_X9_put : Cond.selects RX9 yX9_put yX9_put ∈ wsU := mU (t3m (List.mem_of_getElem? (i := 47) rfl)) rfl
theorem lc_X9_put : Cond.code yX9_put cX9_put 4 (Option.some FieldType.int) ∈ wsU := mU (t3m (List.mem_of_getElem? (i := 48) rfl)) rfl
theorem lm_X9_193 : Cond.methodLink RX9 193 yX5_countSigns ∈ wsU := mU (t3m (List.mem_of_getElem? (i := 49) rfl)) rfl
theorem ls_X5_countSigns : Cond.static yX5_countSigns ∈ wsU := mU (t3m (List.mem_of_getElem? (i := 50) rfl)) rfl
theorem lc_X5_countSigns : Cond.code yX5_countSigns cX5_countSigns 6 (Option.some FieldType.int) ∈ wsU := mU (t3m (List.mem_of_getElem? (i := 51) rfl)) rfl
theorem lq_X5_15 : Cond.constantLong RX5 15 (255 : Int64) ∈ wsU := mU (t3m (List.mem_of_getElem? (i := 52) rfl)) rfl
theorem lm_X9_197 : Cond.methodLink RX9 197 yX5_append ∈ wsU := mU (t3m (List.mem_of_getElem? (i := 53) rfl)) rfl
theorem li_X5_append : Cond.instanceMethod yX5_append ∈ wsU := mU (t3m (List.mem_of_getElem? (i := 54) rfl)) rfl
theorem lv_X5_append : Cond.selects RX5 yX5_append yX5_append ∈ wsU := mU (t3m (List.mem_of_getElem? (i := 55) rfl)) rfl
theorem lc_X5_append : Cond.code yX5_append cX5_append 5 (Option.none : Option FieldType) ∈ wsU := mU (t3m (List.mem_of_getElem? (i := 56) rfl)) rfl
theorem lm_L_75 : Cond.methodLink RL 75 yX9_wipe ∈ wsU := mU (t3m (List.mem_of_getElem? (i := 57) rfl)) rfl
theorem li_X9_wipe : Cond.instanceMethod yX9_wipe ∈ wsU := mU (t3m (List.mem_of_getElem? (i := 58) rfl)) rfl
theorem lv_X9_wipe : Cond.selects RX9 yX9_wipe yX9_wipe ∈ wsU := mU (t3m (List.mem_of_getElem? (i := 59) rfl)) rfl
theorem lc_X9_wipe : Cond.code yX9_wipe cX9_wipe 2 (Option.some FieldType.int) ∈ wsU := mU (t3m (List.mem_of_getElem? (i := 60) rfl)) rfl
theorem lm_L_79 : Cond.methodLink RL 79 yX9_fault ∈ wsU := mU (t3m (List.mem_of_getElem? (i := 61) rfl)) rfl
theorem li_X9_fault : Cond.instanceMethod yX9_fault ∈ wsU := mU (t3m (List.mem_of_getElem? (i := 62) rfl)) rfl
theorem lv_X9_fault : Cond.selects RX9 yX9_fault yX9_fault ∈ wsU := mU (t3m (List.mem_of_getElem? (i := 63) rfl)) rfl
theorem lc_X9_fault : Cond.code yX9_fault cX9_fault 1 (Option.some FieldType.int) ∈ wsU := mU (t3m (List.mem_of_getElem? (i := 64) rfl)) rfl
theorem lm_L_83 : Cond.methodLink RL 83 yX9_undo ∈ wsU := mU (t3m (List.mem_of_getElem? (i := 65) rfl)) rfl
theorem li_X9_undo : Cond.instanceMethod yX9_undo ∈ wsU := mU (t3m (List.mem_of_getElem? (i := 66) rfl)) rfl
theorem lv_X9_undo : Cond.selects RX9 yX9_undo yX9_undo ∈ wsU := mU (t3m (List.mem_of_getElem? (i := 67) rfl)) rfl
theorem lc_X9_undo : Cond.code yX9_undo cX9_undo 1 (Option.some FieldType.int) ∈ wsU := mU (t3m (List.mem_of_getElem? (i := 68) rfl)) rfl
theorem lm_X9_201 : Cond.methodLink RX9 201 yX3_takeBack ∈ wsU := mU (t3m (List.mem_of_getElem? (i := 69) rfl)) rfl
theorem li_X3_takeBack : Cond.instanceMethod yX3_takeBack ∈ wsU := mU (t3m (List.mem_of_getElem? (i := 70) rfl)) rfl
theorem lv_X3_takeBack : Cond.selects RX3 yX3_takeBack yX3_takeBack ∈ wsU := mU (t3m (List.mem_of_getElem? (i := 71) rfl)) rfl
theorem lc_X3_takeBack : Cond.code yX3_takeBack cX3_takeBack 3 (Option.none : Option FieldType) ∈ wsU := mU (t3m (List.mem_of_getElem? (i := 72) rfl)) rfl
theorem lm_L_87 : Cond.methodLink RL 87 yX9_save ∈ wsU := mU (t3m (List.mem_of_getElem? (i := 73) rfl)) rfl
theorem li_X9_save : Cond.instanceMethod yX9_save ∈ wsU := mU (t3m (List.mem_of_getElem? (i := 74) rfl)) rfl
theorem lv_X9_save : Cond.selects RX9 yX9_save yX9_save ∈ wsU := mU (t3m (List.mem_of_getElem? (i := 75) rfl)) rfl
theorem lc_X9_save : Cond.code yX9_save cX9_save 3 (Option.some FieldType.int) ∈ wsU := mU (t3m (List.mem_of_getElem? (i := 76) rfl)) rfl
theorem lm_X9_204 : Cond.methodLink RX9 204 yX9_isSlot ∈ wsU := mU (t3m (List.mem_of_getElem? (i := 77) rfl)) rfl
theorem ls_X9_isSlot : Cond.static yX9_isSlot ∈ wsU := mU (t3m (List.mem_of_getElem? (i := 78) rfl)) rfl
theorem lc_X9_isSlot : Cond.code yX9_isSlot cX9_isSlot 1 (Option.some FieldType.boolean) ∈ wsU := mU (t3m (List.mem_of_getElem? (i := 79) rfl)) rfl
theorem lm_X9_207 : Cond.methodLink RX9 207 yX9_slotOf ∈ wsU := mU (t3m (List.mem_of_getElem? (i := 80) rfl)) rfl
theorem li_X9_slotOf : Cond.instanceMethod yX9_slotOf ∈ wsU := mU (t3m (List.mem_of_getElem? (i := 82) rfl)) rfl
theorem lc_X9_slotOf : Cond.code yX9_slotOf cX9_slotOf 2 (Option.some (FieldType.object "BorrowedHours$Slot")) ∈ wsU := mU (t3m (List.mem_of_getElem? (i := 83) rfl)) rfl
theorem lm_X9_214 : Cond.methodLink RX9 214 yX2_copyFrom ∈ wsU := mU (t3m (List.mem_of_getElem? (i := 84) rfl)) rfl
theorem lm_L_91 : Cond.methodLink RL 91 yX9_restore ∈ wsU := mU (t3m (List.mem_of_getElem? (i := 85) rfl)) rfl
theorem li_X9_restore : Cond.instanceMethod yX9_restore ∈ wsU := mU (t3m (List.mem_of_getElem? (i := 86) rfl)) rfl
theorem lv_X9_restore : Cond.selects RX9 yX9_restore yX9_restore ∈ wsU := mU (t3m (List.mem_of_getElem? (i := 87) rfl)) rfl
theorem lc_X9_restore : Cond.code yX9_restore cX9_restore 3 (Option.some FieldType.int) ∈ wsU := mU (t3m (List.mem_of_getElem? (i := 88) rfl)) rfl
theorem ll_L_10 : Cond.classLink RL 10 RX10 ∈ wsU := mU (t3m (List.mem_of_getElem? (i := 89) rfl)) rfl
theorem lt_X10 : Cond.instantiable RX10 15 ∈ wsU := mU (t3m (List.mem_of_getElem? (i := 90) rfl)) rfl
theorem lm_L_12 : Cond.methodLink RL 12 yX10_init ∈ wsU := mU (t3m (List.mem_of_getElem? (i := 91) rfl)) rfl
theorem li_X10_init : Cond.instanceMethod yX10_init ∈ wsU := mU (t3m (List.mem_of_getElem? (i := 92) rfl)) rfl
theorem lc_X10_init : Cond.code yX10_init cX10_init 1 (Option.none : Option FieldType) ∈ wsU := mU (t3m (List.mem_of_getElem? (i := 93) rfl)) rfl
theorem lm_X10_1 : Cond.methodLink RX10 1 objectInit ∈ wsU := mU (t3m (List.mem_of_getElem? (i := 94) rfl)) rfl
theorem lm_X10_31 : Cond.methodLink RX10 31 yX10_newGame ∈ wsU := mU (t3m (List.mem_of_getElem? (i := 95) rfl)) rfl
theorem li_X10_newGame : Cond.instanceMethod yX10_newGame ∈ wsU := mU (t3m (List.mem_of_getElem? (i := 97) rfl)) rfl
theorem lc_X10_newGame : Cond.code yX10_newGame cX10_newGame 2 (Option.none : Option FieldType) ∈ wsU := mU (t3m (List.mem_of_getElem? (i := 98) rfl)) rfl
theorem lf_X10_7 : Cond.fieldLink RX10 7 "BorrowedHoursModel" "all" "[I" ∈ wsU := mU (t3m (List.mem_of_getElem? (i := 99) rfl)) rfl
theorem lf_X10_13 : Cond.fieldLink RX10 13 "BorrowedHoursModel" "history" "[I" ∈ wsU := mU (t3m (List.mem_of_getElem? (i := 100) rfl)) rfl
theorem lf_X10_34 : Cond.fieldLink RX10 34 "BorrowedHoursModel" "historyLong" "I" ∈ wsU := mU (t3m (List.mem_of_getElem? (i := 101) rfl)) rfl
theorem lf_X10_16 : Cond.fieldLink RX10 16 "BorrowedHoursModel" "slots" "[I" ∈ wsU := mU (t3m (List.mem_of_getElem? (i := 102) rfl)) rfl
theorem lf_X10_19 : Cond.fieldLink RX10 19 "BorrowedHoursModel" "isSaved" "[I" ∈ wsU := mU (t3m (List.mem_of_getElem? (i := 103) rfl)) rfl
theorem lf_X10_22 : Cond.fieldLink RX10 22 "BorrowedHoursModel" "times" "[I" ∈ wsU := mU (t3m (List.mem_of_getElem? (i := 104) rfl)) rfl
theorem lf_X10_73 : Cond.fieldLink RX10 73 "BorrowedHoursModel" "isKnown" "I" ∈ wsU := mU (t3m (List.mem_of_getElem? (i := 105) rfl)) rfl
theorem lf_X10_76 : Cond.fieldLink RX10 76 "BorrowedHoursModel" "knownRules" "I" ∈ wsU := mU (t3m (List.mem_of_getElem? (i := 106) rfl)) rfl
theorem lf_X10_79 : Cond.fieldLink RX10 79 "BorrowedHoursModel" "knownSum" "I" ∈ wsU := mU (t3m (List.mem_of_getElem? (i := 107) rfl)) rfl
theorem lf_X10_25 : Cond.fieldLink RX10 25 "BorrowedHoursModel" "text" "[I" ∈ wsU := mU (t3m (List.mem_of_getElem? (i := 108) rfl)) rfl
theorem lf_X10_132 : Cond.fieldLink RX10 132 "BorrowedHoursModel" "textLong" "I" ∈ wsU := mU (t3m (List.mem_of_getElem? (i := 109) rfl)) rfl
theorem lf_X10_159 : Cond.fieldLink RX10 159 "BorrowedHoursModel" "spot" "I" ∈ wsU := mU (t3m (List.mem_of_getElem? (i := 110) rfl)) rfl
theorem lf_X10_165 : Cond.fieldLink RX10 165 "BorrowedHoursModel" "number" "I" ∈ wsU := mU (t3m (List.mem_of_getElem? (i := 111) rfl)) rfl
theorem lf_X10_28 : Cond.fieldLink RX10 28 "BorrowedHoursModel" "told" "[I" ∈ wsU := mU (t3m (List.mem_of_getElem? (i := 112) rfl)) rfl
theorem lf_X10_171 : Cond.fieldLink RX10 171 "BorrowedHoursModel" "read" "I" ∈ wsU := mU (t3m (List.mem_of_getElem? (i := 113) rfl)) rfl
theorem ly_X10_all : Cond.laysFinal "BorrowedHoursModel" "BorrowedHoursModel" "all" "[I" ∈ wsU := mU (t3m (List.mem_of_getElem? (i := 114) rfl)) rfl
theorem ly_X10_history : Cond.laysFinal "BorrowedHoursModel" "BorrowedHoursModel" "history" "[I" ∈ wsU := mU (t3m (List.mem_of_getElem? (i := 116) rfl)) rfl
theorem ly_X10_historyLong : Cond.lays "BorrowedHoursModel" "BorrowedHoursModel" "historyLong" "I" ∈ wsU := mU (t3m (List.mem_of_getElem? (i := 118) rfl)) rfl
theorem ly_X10_slots : Cond.laysFinal "BorrowedHoursModel" "BorrowedHoursModel" "slots" "[I" ∈ wsU := mU (t3m (List.mem_of_getElem? (i := 120) rfl)) rfl
theorem ly_X10_isSaved : Cond.laysFinal "BorrowedHoursModel" "BorrowedHoursModel" "isSaved" "[I" ∈ wsU := mU (t3m (List.mem_of_getElem? (i := 122) rfl)) rfl
theorem ly_X10_times : Cond.laysFinal "BorrowedHoursModel" "BorrowedHoursModel" "times" "[I" ∈ wsU := mU (t3m (List.mem_of_getElem? (i := 124) rfl)) rfl
theorem ly_X10_isKnown : Cond.lays "BorrowedHoursModel" "BorrowedHoursModel" "isKnown" "I" ∈ wsU := mU (t3m (List.mem_of_getElem? (i := 126) rfl)) rfl
theorem ly_X10_knownRules : Cond.lays "BorrowedHoursModel" "BorrowedHoursModel" "knownRules" "I" ∈ wsU := mU (t3m (List.mem_of_getElem? (i := 128) rfl)) rfl
theorem ly_X10_knownSum : Cond.lays "BorrowedHoursModel" "BorrowedHoursModel" "knownSum" "I" ∈ wsU := mU (t3m (List.mem_of_getElem? (i := 130) rfl)) rfl
theorem ly_X10_text : Cond.laysFinal "BorrowedHoursModel" "BorrowedHoursModel" "text" "[I" ∈ wsU := mU (t3m (List.mem_of_getElem? (i := 132) rfl)) rfl
theorem ly_X10_textLong : Cond.lays "BorrowedHoursModel" "BorrowedHoursModel" "textLong" "I" ∈ wsU := mU (t3m (List.mem_of_getElem? (i := 134) rfl)) rfl
theorem ly_X10_spot : Cond.lays "BorrowedHoursModel" "BorrowedHoursModel" "spot" "I" ∈ wsU := mU (t3m (List.mem_of_getElem? (i := 136) rfl)) rfl
theorem ly_X10_number : Cond.lays "BorrowedHoursModel" "BorrowedHoursModel" "number" "I" ∈ wsU := mU (t3m (List.mem_of_getElem? (i := 138) rfl)) rfl
theorem ly_X10_told : Cond.laysFinal "BorrowedHoursModel" "BorrowedHoursModel" "told" "[I" ∈ wsU := mU (t3m (List.mem_of_getElem? (i := 140) rfl)) rfl
theorem ly_X10_read : Cond.lays "BorrowedHoursModel" "BorrowedHoursModel" "read" "I" ∈ wsU := mU (t3m (List.mem_of_getElem? (i := 142) rfl)) rfl
theorem lm_L_17 : Cond.methodLink RL 17 yX10_set ∈ wsU := mU (t3m (List.mem_of_getElem? (i := 145) rfl)) rfl
theorem li_X10_set : Cond.instanceMethod yX10_set ∈ wsU := mU (t3m (List.mem_of_getElem? (i := 146) rfl)) rfl
theorem lv_X10_set : Cond.selects RX10 yX10_set yX10_set ∈ wsU := mU (t3m (List.mem_of_getElem? (i := 147) rfl)) rfl
theorem lc_X10_set : Cond.code yX10_set cX10_set 4 (Option.some FieldType.int) ∈ wsU := mU (t3m (List.mem_of_getElem? (i := 148) rfl)) rfl
theorem lm_X10_101 : Cond.methodLink RX10 101 yX10_isSetting ∈ wsU := mU (t3m (List.mem_of_getElem? (i := 149) rfl)) rfl
theorem ls_X10_isSetting : Cond.static yX10_isSetting ∈ wsU := mU (t3m (List.mem_of_getElem? (i := 150) rfl)) rfl
theorem lc_X10_isSetting : Cond.code yX10_isSetting cX10_isSetting 2 (Option.some FieldType.boolean) ∈ wsU := mU (t3m (List.mem_of_getElem? (i := 151) rfl)) rfl
theorem lq_X10_93 : Cond.constantLong RX10 93 (3 : Int64) ∈ wsU := mU (t3m (List.mem_of_getElem? (i := 152) rfl)) rfl
theorem lm_X10_95 : Cond.methodLink RX10 95 yX10_in ∈ wsU := mU (t3m (List.mem_of_getElem? (i := 153) rfl)) rfl
theorem ls_X10_in : Cond.static yX10_in ∈ wsU := mU (t3m (List.mem_of_getElem? (i := 154) rfl)) rfl
theorem lc_X10_in : Cond.code yX10_in cX10_in 6 (Option.some FieldType.boolean) ∈ wsU := mU (t3m (List.mem_of_getElem? (i := 155) rfl)) rfl
theorem lq_X10_99 : Cond.constantLong RX10 99 (2 : Int64) ∈ wsU := mU (t3m (List.mem_of_getElem? (i := 156) rfl)) rfl
theorem lm_X10_105 : Cond.methodLink RX10 105 yX10_changes ∈ wsU := mU (t3m (List.mem_of_getElem? (i := 157) rfl)) rfl
theorem li_X10_changes : Cond.instanceMethod yX10_changes ∈ wsU := mU (t3m (List.mem_of_getElem? (i := 159) rfl)) rfl
theorem lc_X10_changes : Cond.code yX10_changes cX10_changes 2 (Option.none : Option FieldType) ∈ wsU := mU (t3m (List.mem_of_getElem? (i := 160) rfl)) rfl
theorem lm_L_21 : Cond.methodLink RL 21 yX10_begin ∈ wsU := mU (t3m (List.mem_of_getElem? (i := 161) rfl)) rfl
theorem li_X10_begin : Cond.instanceMethod yX10_begin ∈ wsU := mU (t3m (List.mem_of_getElem? (i := 162) rfl)) rfl
theorem lv_X10_begin : Cond.selects RX10 yX10_begin yX10_begin ∈ wsU := mU (t3m (List.mem_of_getElem? (i := 163) rfl)) rfl
theorem lc_X10_begin : Cond.code yX10_begin cX10_begin 4 (Option.some FieldType.int) ∈ wsU := mU (t3m (List.mem_of_getElem? (i := 164) rfl)) rfl
theorem lq_X10_108 : Cond.constantLong RX10 108 (6 : Int64) ∈ wsU := mU (t3m (List.mem_of_getElem? (i := 165) rfl)) rfl
theorem lm_L_25 : Cond.methodLink RL 25 yX10_round ∈ wsU := mU (t3m (List.mem_of_getElem? (i := 166) rfl)) rfl
theorem li_X10_round : Cond.instanceMethod yX10_round ∈ wsU := mU (t3m (List.mem_of_getElem? (i := 167) rfl)) rfl
theorem lv_X10_round : Cond.selects RX10 yX10_round yX10_round ∈ wsU := mU (t3m (List.mem_of_getElem? (i := 168) rfl)) rfl
theorem lc_X10_round : Cond.code yX10_round cX10_round 3 (Option.some FieldType.int) ∈ wsU := mU (t3m (List.mem_of_getElem? (i := 169) rfl)) rfl
theorem lq_X10_110 : Cond.constantLong RX10 110 (14 : Int64) ∈ wsU := mU (t3m (List.mem_of_getElem? (i := 170) rfl)) rfl
theorem lm_X10_112 : Cond.methodLink RX10 112 yX10_canPlay ∈ wsU := mU (t3m (List.mem_of_getElem? (i := 171) rfl)) rfl
theorem li_X10_canPlay : Cond.instanceMethod yX10_canPlay ∈ wsU := mU (t3m (List.mem_of_getElem? (i := 173) rfl)) rfl
theorem lc_X10_canPlay : Cond.code yX10_canPlay cX10_canPlay 3 (Option.some FieldType.boolean) ∈ wsU := mU (t3m (List.mem_of_getElem? (i := 174) rfl)) rfl
theorem lm_X10_46 : Cond.methodLink RX10 46 yX10_isOver ∈ wsU := mU (t3m (List.mem_of_getElem? (i := 175) rfl)) rfl
theorem li_X10_isOver : Cond.instanceMethod yX10_isOver ∈ wsU := mU (t3m (List.mem_of_getElem? (i := 177) rfl)) rfl
theorem lc_X10_isOver : Cond.code yX10_isOver cX10_isOver 1 (Option.some FieldType.boolean) ∈ wsU := mU (t3m (List.mem_of_getElem? (i := 178) rfl)) rfl
theorem lm_X10_38 : Cond.methodLink RX10 38 yX10_winnerAt ∈ wsU := mU (t3m (List.mem_of_getElem? (i := 179) rfl)) rfl
theorem li_X10_winnerAt : Cond.instanceMethod yX10_winnerAt ∈ wsU := mU (t3m (List.mem_of_getElem? (i := 181) rfl)) rfl
theorem lc_X10_winnerAt : Cond.code yX10_winnerAt cX10_winnerAt 2 (Option.some FieldType.int) ∈ wsU := mU (t3m (List.mem_of_getElem? (i := 182) rfl)) rfl
theorem lm_X10_50 : Cond.methodLink RX10 50 yX10_most ∈ wsU := mU (t3m (List.mem_of_getElem? (i := 183) rfl)) rfl
theorem li_X10_most : Cond.instanceMethod yX10_most ∈ wsU := mU (t3m (List.mem_of_getElem? (i := 185) rfl)) rfl
theorem lc_X10_most : Cond.code yX10_most cX10_most 2 (Option.some FieldType.int) ∈ wsU := mU (t3m (List.mem_of_getElem? (i := 186) rfl)) rfl
theorem lm_X10_115 : Cond.methodLink RX10 115 yX10_plays ∈ wsU := mU (t3m (List.mem_of_getElem? (i := 187) rfl)) rfl
theorem li_X10_plays : Cond.instanceMethod yX10_plays ∈ wsU := mU (t3m (List.mem_of_getElem? (i := 189) rfl)) rfl
theorem lc_X10_plays : Cond.code yX10_plays cX10_plays 6 (Option.some FieldType.int) ∈ wsU := mU (t3m (List.mem_of_getElem? (i := 190) rfl)) rfl
theorem lm_X10_42 : Cond.methodLink RX10 42 yX10_taker ∈ wsU := mU (t3m (List.mem_of_getElem? (i := 191) rfl)) rfl
theorem li_X10_taker : Cond.instanceMethod yX10_taker ∈ wsU := mU (t3m (List.mem_of_getElem? (i := 193) rfl)) rfl
theorem lc_X10_taker : Cond.code yX10_taker cX10_taker 4 (Option.some FieldType.int) ∈ wsU := mU (t3m (List.mem_of_getElem? (i := 194) rfl)) rfl
theorem lm_L_30 : Cond.methodLink RL 30 yX10_play ∈ wsU := mU (t3m (List.mem_of_getElem? (i := 195) rfl)) rfl
theorem li_X10_play : Cond.instanceMethod yX10_play ∈ wsU := mU (t3m (List.mem_of_getElem? (i := 196) rfl)) rfl
theorem lv_X10_play : Cond.selects RX10 yX10_play yX10_play ∈ wsU := mU (t3m (List.mem_of_getElem? (i := 197) rfl)) rfl
theorem lc_X10_play : Cond.code yX10_play cX10_play 3 (Option.some FieldType.int) ∈ wsU := mU (t3m (List.mem_of_getElem? (i := 198) rfl)) rfl
theorem lm_X10_119 : Cond.methodLink RX10 119 yX10_bestBid ∈ wsU := mU (t3m (List.mem_of_getElem? (i := 199) rfl)) rfl
theorem li_X10_bestBid : Cond.instanceMethod yX10_bestBid ∈ wsU := mU (t3m (List.mem_of_getElem? (i := 200) rfl)) rfl
theorem lv_X10_bestBid : Cond.selects RX10 yX10_bestBid yX10_bestBid ∈ wsU := mU (t3m (List.mem_of_getElem? (i := 201) rfl)) rfl
theorem lc_X10_bestBid : Cond.code yX10_bestBid cX10_bestBid 8 (Option.some FieldType.int) ∈ wsU := mU (t3m (List.mem_of_getElem? (i := 202) rfl)) rfl
theorem lm_X10_86 : Cond.methodLink RX10 86 yX10_knows ∈ wsU := mU (t3m (List.mem_of_getElem? (i := 203) rfl)) rfl
theorem li_X10_knows : Cond.instanceMethod yX10_knows ∈ wsU := mU (t3m (List.mem_of_getElem? (i := 205) rfl)) rfl
theorem lc_X10_knows : Cond.code yX10_knows cX10_knows 6 (Option.none : Option FieldType) ∈ wsU := mU (t3m (List.mem_of_getElem? (i := 206) rfl)) rfl
theorem lm_X10_82 : Cond.methodLink RX10 82 yX10_worksOutAll ∈ wsU := mU (t3m (List.mem_of_getElem? (i := 207) rfl)) rfl
theorem li_X10_worksOutAll : Cond.instanceMethod yX10_worksOutAll ∈ wsU := mU (t3m (List.mem_of_getElem? (i := 209) rfl)) rfl
theorem lc_X10_worksOutAll : Cond.code yX10_worksOutAll cX10_worksOutAll 5 (Option.none : Option FieldType) ∈ wsU := mU (t3m (List.mem_of_getElem? (i := 210) rfl)) rfl
theorem lm_X10_65 : Cond.methodLink RX10 65 yX10_lowest ∈ wsU := mU (t3m (List.mem_of_getElem? (i := 211) rfl)) rfl
theorem li_X10_lowest : Cond.instanceMethod yX10_lowest ∈ wsU := mU (t3m (List.mem_of_getElem? (i := 213) rfl)) rfl
theorem lc_X10_lowest : Cond.code yX10_lowest cX10_lowest 1 (Option.some FieldType.int) ∈ wsU := mU (t3m (List.mem_of_getElem? (i := 214) rfl)) rfl
theorem lm_X10_69 : Cond.methodLink RX10 69 yX10_worksOut ∈ wsU := mU (t3m (List.mem_of_getElem? (i := 215) rfl)) rfl
theorem li_X10_worksOut : Cond.instanceMethod yX10_worksOut ∈ wsU := mU (t3m (List.mem_of_getElem? (i := 217) rfl)) rfl
theorem lc_X10_worksOut : Cond.code yX10_worksOut cX10_worksOut 9 (Option.none : Option FieldType) ∈ wsU := mU (t3m (List.mem_of_getElem? (i := 218) rfl)) rfl
theorem lm_X10_53 : Cond.methodLink RX10 53 yX10_at ∈ wsU := mU (t3m (List.mem_of_getElem? (i := 219) rfl)) rfl
theorem ls_X10_at : Cond.static yX10_at ∈ wsU := mU (t3m (List.mem_of_getElem? (i := 220) rfl)) rfl
theorem lc_X10_at : Cond.code yX10_at cX10_at 6 (Option.some FieldType.int) ∈ wsU := mU (t3m (List.mem_of_getElem? (i := 221) rfl)) rfl
theorem lm_X10_61 : Cond.methodLink RX10 61 yX10_canForce ∈ wsU := mU (t3m (List.mem_of_getElem? (i := 222) rfl)) rfl
theorem li_X10_canForce : Cond.instanceMethod yX10_canForce ∈ wsU := mU (t3m (List.mem_of_getElem? (i := 224) rfl)) rfl
theorem lc_X10_canForce : Cond.code yX10_canForce cX10_canForce 16 (Option.some FieldType.boolean) ∈ wsU := mU (t3m (List.mem_of_getElem? (i := 225) rfl)) rfl
theorem lm_X10_57 : Cond.methodLink RX10 57 yX10_behind ∈ wsU := mU (t3m (List.mem_of_getElem? (i := 226) rfl)) rfl
theorem li_X10_behind : Cond.instanceMethod yX10_behind ∈ wsU := mU (t3m (List.mem_of_getElem? (i := 228) rfl)) rfl
theorem lc_X10_behind : Cond.code yX10_behind cX10_behind 13 (Option.some FieldType.int) ∈ wsU := mU (t3m (List.mem_of_getElem? (i := 229) rfl)) rfl
theorem lm_X10_143 : Cond.methodLink RX10 143 yX10_worstBehind ∈ wsU := mU (t3m (List.mem_of_getElem? (i := 230) rfl)) rfl
theorem li_X10_worstBehind : Cond.instanceMethod yX10_worstBehind ∈ wsU := mU (t3m (List.mem_of_getElem? (i := 232) rfl)) rfl
theorem lc_X10_worstBehind : Cond.code yX10_worstBehind cX10_worstBehind 5 (Option.some FieldType.int) ∈ wsU := mU (t3m (List.mem_of_getElem? (i := 233) rfl)) rfl
theorem lm_X10_140 : Cond.methodLink RX10 140 yX10_timeBehind ∈ wsU := mU (t3m (List.mem_of_getElem? (i := 234) rfl)) rfl
theorem li_X10_timeBehind : Cond.instanceMethod yX10_timeBehind ∈ wsU := mU (t3m (List.mem_of_getElem? (i := 236) rfl)) rfl
theorem lc_X10_timeBehind : Cond.code yX10_timeBehind cX10_timeBehind 5 (Option.some FieldType.int) ∈ wsU := mU (t3m (List.mem_of_getElem? (i := 237) rfl)) rfl
theorem lm_X10_146 : Cond.methodLink RX10 146 yX10_othersBehind ∈ wsU := mU (t3m (List.mem_of_getElem? (i := 238) rfl)) rfl
theorem li_X10_othersBehind : Cond.instanceMethod yX10_othersBehind ∈ wsU := mU (t4m (List.mem_of_getElem? (i := 0) rfl)) rfl
theorem lc_X10_othersBehind : Cond.code yX10_othersBehind cX10_othersBehind 5 (Option.some FieldType.int) ∈ wsU := mU (t4m (List.mem_of_getElem? (i := 1) rfl)) rfl
theorem lm_X10_122 : Cond.methodLink RX10 122 yX10_answerTo ∈ wsU := mU (t4m (List.mem_of_getElem? (i := 2) rfl)) rfl
theorem li_X10_answerTo : Cond.instanceMethod yX10_answerTo ∈ wsU := mU (t4m (List.mem_of_getElem? (i := 4) rfl)) rfl
theorem lc_X10_answerTo : Cond.code yX10_answerTo cX10_answerTo 9 (Option.some FieldType.int) ∈ wsU := mU (t4m (List.mem_of_getElem? (i := 5) rfl)) rfl
theorem lm_L_38 : Cond.methodLink RL 38 yX10_player ∈ wsU := mU (t4m (List.mem_of_getElem? (i := 6) rfl)) rfl
theorem li_X10_player : Cond.instanceMethod yX10_player ∈ wsU := mU (t4m (List.mem_of_getElem? (i := 7) rfl)) rfl
theorem lv_X10_player : Cond.selects RX10 yX10_player yX10_player ∈ wsU := mU (t4m (List.mem_of_getElem? (i := 8) rfl)) rfl
theorem lc_X10_player : Cond.code yX10_player cX10_player 3 (Option.some FieldType.int) ∈ wsU := mU (t4m (List.mem_of_getElem? (i := 9) rfl)) rfl
theorem lm_X10_125 : Cond.methodLink RX10 125 yX10_isPlayer ∈ wsU := mU (t4m (List.mem_of_getElem? (i := 10) rfl)) rfl
theorem ls_X10_isPlayer : Cond.static yX10_isPlayer ∈ wsU := mU (t4m (List.mem_of_getElem? (i := 11) rfl)) rfl
theorem lc_X10_isPlayer : Cond.code yX10_isPlayer cX10_isPlayer 1 (Option.some FieldType.boolean) ∈ wsU := mU (t4m (List.mem_of_getElem? (i := 12) rfl)) rfl
theorem lm_X10_129 : Cond.methodLink RX10 129 yX10_timeOf ∈ wsU := mU (t4m (List.mem_of_getElem? (i := 13) rfl)) rfl
theorem li_X10_timeOf : Cond.instanceMethod yX10_timeOf ∈ wsU := mU (t4m (List.mem_of_getElem? (i := 15) rfl)) rfl
theorem lc_X10_timeOf : Cond.code yX10_timeOf cX10_timeOf 2 (Option.some FieldType.int) ∈ wsU := mU (t4m (List.mem_of_getElem? (i := 16) rfl)) rfl
theorem lm_X10_90 : Cond.methodLink RX10 90 yX10_timeWith ∈ wsU := mU (t4m (List.mem_of_getElem? (i := 17) rfl)) rfl
theorem li_X10_timeWith : Cond.instanceMethod yX10_timeWith ∈ wsU := mU (t4m (List.mem_of_getElem? (i := 19) rfl)) rfl
theorem lc_X10_timeWith : Cond.code yX10_timeWith cX10_timeWith 4 (Option.some FieldType.int) ∈ wsU := mU (t4m (List.mem_of_getElem? (i := 20) rfl)) rfl
theorem lm_L_43 : Cond.methodLink RL 43 yX10_count ∈ wsU := mU (t4m (List.mem_of_getElem? (i := 21) rfl)) rfl
theorem li_X10_count : Cond.instanceMethod yX10_count ∈ wsU := mU (t4m (List.mem_of_getElem? (i := 22) rfl)) rfl
theorem lv_X10_count : Cond.selects RX10 yX10_count yX10_count ∈ wsU := mU (t4m (List.mem_of_getElem? (i := 23) rfl)) rfl
theorem lc_X10_count : Cond.code yX10_count cX10_count 2 (Option.some FieldType.int) ∈ wsU := mU (t4m (List.mem_of_getElem? (i := 24) rfl)) rfl
theorem lm_L_47 : Cond.methodLink RL 47 yX10_forced ∈ wsU := mU (t4m (List.mem_of_getElem? (i := 25) rfl)) rfl
theorem li_X10_forced : Cond.instanceMethod yX10_forced ∈ wsU := mU (t4m (List.mem_of_getElem? (i := 26) rfl)) rfl
theorem lv_X10_forced : Cond.selects RX10 yX10_forced yX10_forced ∈ wsU := mU (t4m (List.mem_of_getElem? (i := 27) rfl)) rfl
theorem lc_X10_forced : Cond.code yX10_forced cX10_forced 3 (Option.some FieldType.int) ∈ wsU := mU (t4m (List.mem_of_getElem? (i := 28) rfl)) rfl
theorem lq_X10_135 : Cond.constantLong RX10 135 (8 : Int64) ∈ wsU := mU (t4m (List.mem_of_getElem? (i := 29) rfl)) rfl
theorem lm_L_51 : Cond.methodLink RL 51 yX10_ahead ∈ wsU := mU (t4m (List.mem_of_getElem? (i := 30) rfl)) rfl
theorem li_X10_ahead : Cond.instanceMethod yX10_ahead ∈ wsU := mU (t4m (List.mem_of_getElem? (i := 31) rfl)) rfl
theorem lv_X10_ahead : Cond.selects RX10 yX10_ahead yX10_ahead ∈ wsU := mU (t4m (List.mem_of_getElem? (i := 32) rfl)) rfl
theorem lc_X10_ahead : Cond.code yX10_ahead cX10_ahead 3 (Option.some FieldType.int) ∈ wsU := mU (t4m (List.mem_of_getElem? (i := 33) rfl)) rfl
theorem lm_X10_137 : Cond.methodLink RX10 137 yX10_forced ∈ wsU := mU (t4m (List.mem_of_getElem? (i := 34) rfl)) rfl
theorem lm_L_55 : Cond.methodLink RL 55 yX10_bestBid ∈ wsU := mU (t4m (List.mem_of_getElem? (i := 35) rfl)) rfl
theorem lm_L_59 : Cond.methodLink RL 59 yX10_bestAnswer ∈ wsU := mU (t4m (List.mem_of_getElem? (i := 36) rfl)) rfl
theorem li_X10_bestAnswer : Cond.instanceMethod yX10_bestAnswer ∈ wsU := mU (t4m (List.mem_of_getElem? (i := 37) rfl)) rfl
theorem lv_X10_bestAnswer : Cond.selects RX10 yX10_bestAnswer yX10_bestAnswer ∈ wsU := mU (t4m (List.mem_of_getElem? (i := 38) rfl)) rfl
theorem lc_X10_bestAnswer : Cond.code yX10_bestAnswer cX10_bestAnswer 2 (Option.some FieldType.int) ∈ wsU := mU (t4m (List.mem_of_getElem? (i := 39) rfl)) rfl
theorem lm_L_63 : Cond.methodLink RL 63 yX10_keeps ∈ wsU := mU (t4m (List.mem_of_getElem? (i := 40) rfl)) rfl
theorem li_X10_keeps : Cond.instanceMethod yX10_keeps ∈ wsU := mU (t4m (List.mem_of_getElem? (i := 41) rfl)) rfl
theorem lv_X10_keeps : Cond.selects RX10 yX10_keeps yX10_keeps ∈ wsU := mU (t4m (List.mem_of_getElem? (i := 42) rfl)) rfl
theorem lc_X10_keeps : Cond.code yX10_keeps cX10_keeps 3 (Option.some FieldType.int) ∈ wsU := mU (t4m (List.mem_of_getElem? (i := 43) rfl)) rfl
theorem lm_L_67 : Cond.methodLink RL 67 yX10_leastHours ∈ wsU := mU (t4m (List.mem_of_getElem? (i := 44) rfl)) rfl
theorem li_X10_leastHours : Cond.instanceMethod yX10_leastHours ∈ wsU := mU (t4m (List.mem_of_getElem? (i := 45) rfl)) rfl
theorem lv_X10_leastHours : Cond.selects RX10 yX10_leastHours yX10_leastHours ∈ wsU := mU (t4m (List.mem_of_getElem? (i := 46) rfl)) rfl
theorem lc_X10_leastHours : Cond.code yX10_leastHours cX10_leastHours 5 (Option.some FieldType.int) ∈ wsU := mU (t4m (List.mem_of_getElem? (i := 47) rfl)) rfl
theorem lm_L_74 : Cond.methodLink RL 74 yX10_put ∈ wsU := mU (t4m (List.mem_of_getElem? (i := 48) rfl)) rfl
theorem li_X10_put : Cond.instanceMethod yX10_put ∈ wsU := mU (t4m (List.mem_of_getElem? (i := 49) rfl)) rfl
theorem lv_X10_put : Cond.selects RX10 yX10_put yX10_put ∈ wsU := mU (t4m (List.mem_of_getElem? (i := 50) rfl)) rfl
theorem lc_X10_put : Cond.code yX10_put cX10_put 5 (Option.some FieldType.int) ∈ wsU := mU (t4m (List.mem_of_getElem? (i := 51) rfl)) rfl
theorem lm_X10_155 : Cond.methodLink RX10 155 yX10_charactersOf ∈ wsU := mU (t4m (List.mem_of_getElem? (i := 52) rfl)) rfl
theorem ls_X10_charactersOf : Cond.static yX10_charactersOf ∈ wsU := mU (t4m (List.mem_of_getElem? (i := 53) rfl)) rfl
theorem lc_X10_charactersOf : Cond.code yX10_charactersOf cX10_charactersOf 5 (Option.some FieldType.int) ∈ wsU := mU (t4m (List.mem_of_getElem? (i := 54) rfl)) rfl
theorem lq_X10_149 : Cond.constantLong RX10 149 (255 : Int64) ∈ wsU := mU (t4m (List.mem_of_getElem? (i := 55) rfl)) rfl
theorem lq_X10_151 : Cond.constantLong RX10 151 (33 : Int64) ∈ wsU := mU (t4m (List.mem_of_getElem? (i := 56) rfl)) rfl
theorem lq_X10_153 : Cond.constantLong RX10 153 (126 : Int64) ∈ wsU := mU (t4m (List.mem_of_getElem? (i := 57) rfl)) rfl
theorem lm_L_78 : Cond.methodLink RL 78 yX10_wipe ∈ wsU := mU (t4m (List.mem_of_getElem? (i := 58) rfl)) rfl
theorem li_X10_wipe : Cond.instanceMethod yX10_wipe ∈ wsU := mU (t4m (List.mem_of_getElem? (i := 59) rfl)) rfl
theorem lv_X10_wipe : Cond.selects RX10 yX10_wipe yX10_wipe ∈ wsU := mU (t4m (List.mem_of_getElem? (i := 60) rfl)) rfl
theorem lc_X10_wipe : Cond.code yX10_wipe cX10_wipe 2 (Option.some FieldType.int) ∈ wsU := mU (t4m (List.mem_of_getElem? (i := 61) rfl)) rfl
theorem lm_L_82 : Cond.methodLink RL 82 yX10_fault ∈ wsU := mU (t4m (List.mem_of_getElem? (i := 62) rfl)) rfl
theorem li_X10_fault : Cond.instanceMethod yX10_fault ∈ wsU := mU (t4m (List.mem_of_getElem? (i := 63) rfl)) rfl
theorem lv_X10_fault : Cond.selects RX10 yX10_fault yX10_fault ∈ wsU := mU (t4m (List.mem_of_getElem? (i := 64) rfl)) rfl
theorem lc_X10_fault : Cond.code yX10_fault cX10_fault 2 (Option.some FieldType.int) ∈ wsU := mU (t4m (List.mem_of_getElem? (i := 65) rfl)) rfl
theorem lm_X10_177 : Cond.methodLink RX10 177 yX10_readsRound ∈ wsU := mU (t4m (List.mem_of_getElem? (i := 66) rfl)) rfl
theorem li_X10_readsRound : Cond.instanceMethod yX10_readsRound ∈ wsU := mU (t4m (List.mem_of_getElem? (i := 68) rfl)) rfl
theorem lc_X10_readsRound : Cond.code yX10_readsRound cX10_readsRound 1 (Option.some FieldType.boolean) ∈ wsU := mU (t4m (List.mem_of_getElem? (i := 69) rfl)) rfl
theorem lm_X10_168 : Cond.methodLink RX10 168 yX10_readsBid ∈ wsU := mU (t4m (List.mem_of_getElem? (i := 70) rfl)) rfl
theorem li_X10_readsBid : Cond.instanceMethod yX10_readsBid ∈ wsU := mU (t4m (List.mem_of_getElem? (i := 72) rfl)) rfl
theorem lc_X10_readsBid : Cond.code yX10_readsBid cX10_readsBid 1 (Option.some FieldType.boolean) ∈ wsU := mU (t4m (List.mem_of_getElem? (i := 73) rfl)) rfl
theorem lm_X10_162 : Cond.methodLink RX10 162 yX10_isHere ∈ wsU := mU (t4m (List.mem_of_getElem? (i := 74) rfl)) rfl
theorem li_X10_isHere : Cond.instanceMethod yX10_isHere ∈ wsU := mU (t4m (List.mem_of_getElem? (i := 76) rfl)) rfl
theorem lc_X10_isHere : Cond.code yX10_isHere cX10_isHere 3 (Option.some FieldType.boolean) ∈ wsU := mU (t4m (List.mem_of_getElem? (i := 77) rfl)) rfl
theorem lm_X10_174 : Cond.methodLink RX10 174 yX10_takesOne ∈ wsU := mU (t4m (List.mem_of_getElem? (i := 78) rfl)) rfl
theorem li_X10_takesOne : Cond.instanceMethod yX10_takesOne ∈ wsU := mU (t4m (List.mem_of_getElem? (i := 80) rfl)) rfl
theorem lc_X10_takesOne : Cond.code yX10_takesOne cX10_takesOne 3 (Option.some FieldType.boolean) ∈ wsU := mU (t4m (List.mem_of_getElem? (i := 81) rfl)) rfl
theorem lm_L_34 : Cond.methodLink RL 34 yX10_run ∈ wsU := mU (t4m (List.mem_of_getElem? (i := 82) rfl)) rfl
theorem li_X10_run : Cond.instanceMethod yX10_run ∈ wsU := mU (t4m (List.mem_of_getElem? (i := 83) rfl)) rfl
theorem lv_X10_run : Cond.selects RX10 yX10_run yX10_run ∈ wsU := mU (t4m (List.mem_of_getElem? (i := 84) rfl)) rfl
theorem lc_X10_run : Cond.code yX10_run cX10_run 3 (Option.some FieldType.int) ∈ wsU := mU (t4m (List.mem_of_getElem? (i := 85) rfl)) rfl
theorem lm_X10_180 : Cond.methodLink RX10 180 yX10_fault ∈ wsU := mU (t4m (List.mem_of_getElem? (i := 86) rfl)) rfl
theorem lm_L_86 : Cond.methodLink RL 86 yX10_undo ∈ wsU := mU (t4m (List.mem_of_getElem? (i := 87) rfl)) rfl
theorem li_X10_undo : Cond.instanceMethod yX10_undo ∈ wsU := mU (t4m (List.mem_of_getElem? (i := 88) rfl)) rfl
theorem lv_X10_undo : Cond.selects RX10 yX10_undo yX10_undo ∈ wsU := mU (t4m (List.mem_of_getElem? (i := 89) rfl)) rfl
theorem lc_X10_undo : Cond.code yX10_undo cX10_undo 2 (Option.some FieldType.int) ∈ wsU := mU (t4m (List.mem_of_getElem? (i := 90) rfl)) rfl
theorem lm_L_90 : Cond.methodLink RL 90 yX10_save ∈ wsU := mU (t4m (List.mem_of_getElem? (i := 91) rfl)) rfl
theorem li_X10_save : Cond.instanceMethod yX10_save ∈ wsU := mU (t4m (List.mem_of_getElem? (i := 92) rfl)) rfl
theorem lv_X10_save : Cond.selects RX10 yX10_save yX10_save ∈ wsU := mU (t4m (List.mem_of_getElem? (i := 93) rfl)) rfl
theorem lc_X10_save : Cond.code yX10_save cX10_save 3 (Option.some FieldType.int) ∈ wsU := mU (t4m (List.mem_of_getElem? (i := 94) rfl)) rfl
theorem lm_L_94 : Cond.methodLink RL 94 yX10_restore ∈ wsU := mU (t4m (List.mem_of_getElem? (i := 95) rfl)) rfl
theorem li_X10_restore : Cond.instanceMethod yX10_restore ∈ wsU := mU (t4m (List.mem_of_getElem? (i := 96) rfl)) rfl
theorem lv_X10_restore : Cond.selects RX10 yX10_restore yX10_restore ∈ wsU := mU (t4m (List.mem_of_getElem? (i := 97) rfl)) rfl
theorem lc_X10_restore : Cond.code yX10_restore cX10_restore 3 (Option.some FieldType.int) ∈ wsU := mU (t4m (List.mem_of_getElem? (i := 98) rfl)) rfl
theorem lq_L_68 : Cond.constantLong RL 68 (4294967295 : Int64) ∈ wsU := mU (t4m (List.mem_of_getElem? (i := 99) rfl)) rfl
theorem lv_X3_dropOldest : Cond.selects RX3 yX3_dropOldest yX3_dropOldest ∈ wsU := mU (List.mem_append_left _ (List.mem_map.mpr ⟨(yX3_dropOldest, 2), List.mem_append_left _ (List.mem_of_getElem? (i := 0) rfl), rfl⟩)) rfl
theorem lv_X9_timesNow : Cond.selects RX9 yX9_timesNow yX9_timesNow ∈ wsU := mU (List.mem_append_left _ (List.mem_map.mpr ⟨(yX9_timesNow, 8), List.mem_append_left _ (List.mem_of_getElem? (i := 1) rfl), rfl⟩)) rfl
theorem lv_X8_learnRounds : Cond.selects RX8 yX8_learnRounds yX8_learnRounds ∈ wsU := mU (List.mem_append_left _ (List.mem_map.mpr ⟨(yX8_learnRounds, 7), List.mem_append_left _ (List.mem_of_getElem? (i := 2) rfl), rfl⟩)) rfl
theorem lv_X8_bidForces : Cond.selects RX8 yX8_bidForces yX8_bidForces ∈ wsU := mU (List.mem_append_left _ (List.mem_map.mpr ⟨(yX8_bidForces, 7), List.mem_append_left _ (List.mem_of_getElem? (i := 3) rfl), rfl⟩)) rfl
theorem lv_X8_lost : Cond.selects RX8 yX8_lost yX8_lost ∈ wsU := mU (List.mem_append_left _ (List.mem_map.mpr ⟨(yX8_lost, 7), List.mem_append_left _ (List.mem_of_getElem? (i := 4) rfl), rfl⟩)) rfl
theorem lv_X8_neverTakes : Cond.selects RX8 yX8_neverTakes yX8_neverTakes ∈ wsU := mU (List.mem_append_left _ (List.mem_map.mpr ⟨(yX8_neverTakes, 7), List.mem_append_left _ (List.mem_of_getElem? (i := 5) rfl), rfl⟩)) rfl
theorem lv_X8_taken : Cond.selects RX8 yX8_taken yX8_taken ∈ wsU := mU (List.mem_append_left _ (List.mem_map.mpr ⟨(yX8_taken, 7), List.mem_append_left _ (List.mem_of_getElem? (i := 6) rfl), rfl⟩)) rfl
theorem lv_X8_answerForces : Cond.selects RX8 yX8_answerForces yX8_answerForces ∈ wsU := mU (List.mem_append_left _ (List.mem_map.mpr ⟨(yX8_answerForces, 7), List.mem_append_left _ (List.mem_of_getElem? (i := 7) rfl), rfl⟩)) rfl
theorem lv_X0_longestOwn : Cond.selects RX0 yX0_longestOwn yX0_longestOwn ∈ wsU := mU (List.mem_append_left _ (List.mem_map.mpr ⟨(yX0_longestOwn, 1), List.mem_append_left _ (List.mem_of_getElem? (i := 8) rfl), rfl⟩)) rfl
theorem lv_X0_timeBehind : Cond.selects RX0 yX0_timeBehind yX0_timeBehind ∈ wsU := mU (List.mem_append_left _ (List.mem_map.mpr ⟨(yX0_timeBehind, 1), List.mem_append_left _ (List.mem_of_getElem? (i := 9) rfl), rfl⟩)) rfl
theorem lv_X0_findDelay : Cond.selects RX0 yX0_findDelay yX0_findDelay ∈ wsU := mU (List.mem_append_left _ (List.mem_map.mpr ⟨(yX0_findDelay, 1), List.mem_append_left _ (List.mem_of_getElem? (i := 10) rfl), rfl⟩)) rfl
theorem lv_X0_leastOther : Cond.selects RX0 yX0_leastOther yX0_leastOther ∈ wsU := mU (List.mem_append_left _ (List.mem_map.mpr ⟨(yX0_leastOther, 1), List.mem_append_left _ (List.mem_of_getElem? (i := 11) rfl), rfl⟩)) rfl
theorem lv_X9_playPad : Cond.selects RX9 yX9_playPad yX9_playPad ∈ wsU := mU (List.mem_append_left _ (List.mem_map.mpr ⟨(yX9_playPad, 8), List.mem_append_left _ (List.mem_of_getElem? (i := 12) rfl), rfl⟩)) rfl
theorem lv_X9_timeWith : Cond.selects RX9 yX9_timeWith yX9_timeWith ∈ wsU := mU (List.mem_append_left _ (List.mem_map.mpr ⟨(yX9_timeWith, 8), List.mem_append_left _ (List.mem_of_getElem? (i := 13) rfl), rfl⟩)) rfl
theorem lv_X1_seesWin : Cond.selects RX1 yX1_seesWin yX1_seesWin ∈ wsU := mU (List.mem_append_left _ (List.mem_map.mpr ⟨(yX1_seesWin, 1), List.mem_append_left _ (List.mem_of_getElem? (i := 14) rfl), rfl⟩)) rfl
theorem lv_X1_seesBid : Cond.selects RX1 yX1_seesBid yX1_seesBid ∈ wsU := mU (List.mem_append_left _ (List.mem_map.mpr ⟨(yX1_seesBid, 1), List.mem_append_left _ (List.mem_of_getElem? (i := 15) rfl), rfl⟩)) rfl
theorem lv_X1_standsAllAnswers : Cond.selects RX1 yX1_standsAllAnswers yX1_standsAllAnswers ∈ wsU := mU (List.mem_append_left _ (List.mem_map.mpr ⟨(yX1_standsAllAnswers, 1), List.mem_append_right _ (List.mem_append_left _ (List.mem_of_getElem? (i := 0) rfl)), rfl⟩)) rfl
theorem lv_X1_canTake : Cond.selects RX1 yX1_canTake yX1_canTake ∈ wsU := mU (List.mem_append_left _ (List.mem_map.mpr ⟨(yX1_canTake, 1), List.mem_append_right _ (List.mem_append_left _ (List.mem_of_getElem? (i := 1) rfl)), rfl⟩)) rfl
theorem lv_X1_seesTaken : Cond.selects RX1 yX1_seesTaken yX1_seesTaken ∈ wsU := mU (List.mem_append_left _ (List.mem_map.mpr ⟨(yX1_seesTaken, 1), List.mem_append_right _ (List.mem_append_left _ (List.mem_of_getElem? (i := 2) rfl)), rfl⟩)) rfl
theorem lv_X1_leastTaking : Cond.selects RX1 yX1_leastTaking yX1_leastTaking ∈ wsU := mU (List.mem_append_left _ (List.mem_map.mpr ⟨(yX1_leastTaking, 1), List.mem_append_right _ (List.mem_append_left _ (List.mem_of_getElem? (i := 3) rfl)), rfl⟩)) rfl
theorem lv_X1_seesLost : Cond.selects RX1 yX1_seesLost yX1_seesLost ∈ wsU := mU (List.mem_append_left _ (List.mem_map.mpr ⟨(yX1_seesLost, 1), List.mem_append_right _ (List.mem_append_left _ (List.mem_of_getElem? (i := 4) rfl)), rfl⟩)) rfl
theorem lv_X1_seesAnswers : Cond.selects RX1 yX1_seesAnswers yX1_seesAnswers ∈ wsU := mU (List.mem_append_left _ (List.mem_map.mpr ⟨(yX1_seesAnswers, 1), List.mem_append_right _ (List.mem_append_left _ (List.mem_of_getElem? (i := 5) rfl)), rfl⟩)) rfl
theorem lv_X1_hasAnswer : Cond.selects RX1 yX1_hasAnswer yX1_hasAnswer ∈ wsU := mU (List.mem_append_left _ (List.mem_map.mpr ⟨(yX1_hasAnswer, 1), List.mem_append_right _ (List.mem_append_left _ (List.mem_of_getElem? (i := 6) rfl)), rfl⟩)) rfl
theorem lv_X9_slotOf : Cond.selects RX9 yX9_slotOf yX9_slotOf ∈ wsU := mU (List.mem_append_left _ (List.mem_map.mpr ⟨(yX9_slotOf, 8), List.mem_append_right _ (List.mem_append_left _ (List.mem_of_getElem? (i := 7) rfl)), rfl⟩)) rfl
theorem lv_X10_newGame : Cond.selects RX10 yX10_newGame yX10_newGame ∈ wsU := mU (List.mem_append_left _ (List.mem_map.mpr ⟨(yX10_newGame, 15), List.mem_append_right _ (List.mem_append_left _ (List.mem_of_getElem? (i := 8) rfl)), rfl⟩)) rfl
theorem lv_X10_changes : Cond.selects RX10 yX10_changes yX10_changes ∈ wsU := mU (List.mem_append_left _ (List.mem_map.mpr ⟨(yX10_changes, 15), List.mem_append_right _ (List.mem_append_left _ (List.mem_of_getElem? (i := 9) rfl)), rfl⟩)) rfl
theorem lv_X10_canPlay : Cond.selects RX10 yX10_canPlay yX10_canPlay ∈ wsU := mU (List.mem_append_left _ (List.mem_map.mpr ⟨(yX10_canPlay, 15), List.mem_append_right _ (List.mem_append_left _ (List.mem_of_getElem? (i := 10) rfl)), rfl⟩)) rfl
theorem lv_X10_isOver : Cond.selects RX10 yX10_isOver yX10_isOver ∈ wsU := mU (List.mem_append_left _ (List.mem_map.mpr ⟨(yX10_isOver, 15), List.mem_append_right _ (List.mem_append_left _ (List.mem_of_getElem? (i := 11) rfl)), rfl⟩)) rfl
theorem lv_X10_winnerAt : Cond.selects RX10 yX10_winnerAt yX10_winnerAt ∈ wsU := mU (List.mem_append_left _ (List.mem_map.mpr ⟨(yX10_winnerAt, 15), List.mem_append_right _ (List.mem_append_left _ (List.mem_of_getElem? (i := 12) rfl)), rfl⟩)) rfl
theorem lv_X10_most : Cond.selects RX10 yX10_most yX10_most ∈ wsU := mU (List.mem_append_left _ (List.mem_map.mpr ⟨(yX10_most, 15), List.mem_append_right _ (List.mem_append_left _ (List.mem_of_getElem? (i := 13) rfl)), rfl⟩)) rfl
theorem lv_X10_plays : Cond.selects RX10 yX10_plays yX10_plays ∈ wsU := mU (List.mem_append_left _ (List.mem_map.mpr ⟨(yX10_plays, 15), List.mem_append_right _ (List.mem_append_left _ (List.mem_of_getElem? (i := 14) rfl)), rfl⟩)) rfl
theorem lv_X10_taker : Cond.selects RX10 yX10_taker yX10_taker ∈ wsU := mU (List.mem_append_left _ (List.mem_map.mpr ⟨(yX10_taker, 15), List.mem_append_right _ (List.mem_append_left _ (List.mem_of_getElem? (i := 15) rfl)), rfl⟩)) rfl
theorem lv_X10_knows : Cond.selects RX10 yX10_knows yX10_knows ∈ wsU := mU (List.mem_append_left _ (List.mem_map.mpr ⟨(yX10_knows, 15), List.mem_append_right _ (List.mem_append_right _ (List.mem_of_getElem? (i := 0) rfl)), rfl⟩)) rfl
theorem lv_X10_worksOutAll : Cond.selects RX10 yX10_worksOutAll yX10_worksOutAll ∈ wsU := mU (List.mem_append_left _ (List.mem_map.mpr ⟨(yX10_worksOutAll, 15), List.mem_append_right _ (List.mem_append_right _ (List.mem_of_getElem? (i := 1) rfl)), rfl⟩)) rfl
theorem lv_X10_lowest : Cond.selects RX10 yX10_lowest yX10_lowest ∈ wsU := mU (List.mem_append_left _ (List.mem_map.mpr ⟨(yX10_lowest, 15), List.mem_append_right _ (List.mem_append_right _ (List.mem_of_getElem? (i := 2) rfl)), rfl⟩)) rfl
theorem lv_X10_worksOut : Cond.selects RX10 yX10_worksOut yX10_worksOut ∈ wsU := mU (List.mem_append_left _ (List.mem_map.mpr ⟨(yX10_worksOut, 15), List.mem_append_right _ (List.mem_append_right _ (List.mem_of_getElem? (i := 3) rfl)), rfl⟩)) rfl
theorem lv_X10_canForce : Cond.selects RX10 yX10_canForce yX10_canForce ∈ wsU := mU (List.mem_append_left _ (List.mem_map.mpr ⟨(yX10_canForce, 15), List.mem_append_right _ (List.mem_append_right _ (List.mem_of_getElem? (i := 4) rfl)), rfl⟩)) rfl
theorem lv_X10_behind : Cond.selects RX10 yX10_behind yX10_behind ∈ wsU := mU (List.mem_append_left _ (List.mem_map.mpr ⟨(yX10_behind, 15), List.mem_append_right _ (List.mem_append_right _ (List.mem_of_getElem? (i := 5) rfl)), rfl⟩)) rfl
theorem lv_X10_worstBehind : Cond.selects RX10 yX10_worstBehind yX10_worstBehind ∈ wsU := mU (List.mem_append_left _ (List.mem_map.mpr ⟨(yX10_worstBehind, 15), List.mem_append_right _ (List.mem_append_right _ (List.mem_of_getElem? (i := 6) rfl)), rfl⟩)) rfl
theorem lv_X10_timeBehind : Cond.selects RX10 yX10_timeBehind yX10_timeBehind ∈ wsU := mU (List.mem_append_left _ (List.mem_map.mpr ⟨(yX10_timeBehind, 15), List.mem_append_right _ (List.mem_append_right _ (List.mem_of_getElem? (i := 7) rfl)), rfl⟩)) rfl
theorem lv_X10_othersBehind : Cond.selects RX10 yX10_othersBehind yX10_othersBehind ∈ wsU := mU (List.mem_append_left _ (List.mem_map.mpr ⟨(yX10_othersBehind, 15), List.mem_append_right _ (List.mem_append_right _ (List.mem_of_getElem? (i := 8) rfl)), rfl⟩)) rfl
theorem lv_X10_answerTo : Cond.selects RX10 yX10_answerTo yX10_answerTo ∈ wsU := mU (List.mem_append_left _ (List.mem_map.mpr ⟨(yX10_answerTo, 15), List.mem_append_right _ (List.mem_append_right _ (List.mem_of_getElem? (i := 9) rfl)), rfl⟩)) rfl
theorem lv_X10_timeOf : Cond.selects RX10 yX10_timeOf yX10_timeOf ∈ wsU := mU (List.mem_append_left _ (List.mem_map.mpr ⟨(yX10_timeOf, 15), List.mem_append_right _ (List.mem_append_right _ (List.mem_of_getElem? (i := 10) rfl)), rfl⟩)) rfl
theorem lv_X10_timeWith : Cond.selects RX10 yX10_timeWith yX10_timeWith ∈ wsU := mU (List.mem_append_left _ (List.mem_map.mpr ⟨(yX10_timeWith, 15), List.mem_append_right _ (List.mem_append_right _ (List.mem_of_getElem? (i := 11) rfl)), rfl⟩)) rfl
theorem lv_X10_readsRound : Cond.selects RX10 yX10_readsRound yX10_readsRound ∈ wsU := mU (List.mem_append_left _ (List.mem_map.mpr ⟨(yX10_readsRound, 15), List.mem_append_right _ (List.mem_append_right _ (List.mem_of_getElem? (i := 12) rfl)), rfl⟩)) rfl
theorem lv_X10_readsBid : Cond.selects RX10 yX10_readsBid yX10_readsBid ∈ wsU := mU (List.mem_append_left _ (List.mem_map.mpr ⟨(yX10_readsBid, 15), List.mem_append_right _ (List.mem_append_right _ (List.mem_of_getElem? (i := 13) rfl)), rfl⟩)) rfl
theorem lv_X10_isHere : Cond.selects RX10 yX10_isHere yX10_isHere ∈ wsU := mU (List.mem_append_left _ (List.mem_map.mpr ⟨(yX10_isHere, 15), List.mem_append_right _ (List.mem_append_right _ (List.mem_of_getElem? (i := 14) rfl)), rfl⟩)) rfl
theorem lv_X10_takesOne : Cond.selects RX10 yX10_takesOne yX10_takesOne ∈ wsU := mU (List.mem_append_left _ (List.mem_map.mpr ⟨(yX10_takesOne, 15), List.mem_append_right _ (List.mem_append_right _ (List.mem_of_getElem? (i := 15) rfl)), rfl⟩)) rfl
theorem inUX0 : ∀ w ∈ u_ws RX0 TX0 1, w ∈ wsU := u_all (fun k hk => match k, hk with | 0, _ => ly_X0_game | (j + 1), h => absurd h (by omega))
theorem inUX1 : ∀ w ∈ u_ws RX1 TX1 1, w ∈ wsU := u_all (fun k hk => match k, hk with | 0, _ => ly_X1_game | (j + 1), h => absurd h (by omega))
theorem inUX2 : ∀ w ∈ u_ws RX2 TX2 10, w ∈ wsU := u_all (fun k hk => match k, hk with | 0, _ => ly_X2_end | 1, _ => ly_X2_loan | 2, _ => ly_X2_pays | 3, _ => ly_X2_tie | 4, _ => ly_X2_hand | 5, _ => ly_X2_first | 6, _ => ly_X2_rounds | 7, _ => ly_X2_clock | 8, _ => ly_X2_zero | 9, _ => ly_X2_one | (j + 10), h => absurd h (by omega))
theorem inUX3 : ∀ w ∈ u_ws RX3 TX3 2, w ∈ wsU := u_all (fun k hk => match k, hk with | 0, _ => ly_X3_states | 1, _ => ly_X3_size | (j + 2), h => absurd h (by omega))
theorem inUX4 : ∀ w ∈ u_ws RX4 TX4 1, w ∈ wsU := u_all (fun k hk => match k, hk with | 0, _ => ly_X4_tables | (j + 1), h => absurd h (by omega))
theorem inUX5 : ∀ w ∈ u_ws RX5 TX5 2, w ∈ wsU := u_all (fun k hk => match k, hk with | 0, _ => ly_X5_signs | 1, _ => ly_X5_length | (j + 2), h => absurd h (by omega))
theorem inUX6 : ∀ w ∈ u_ws RX6 TX6 5, w ∈ wsU := u_all (fun k hk => match k, hk with | 0, _ => ly_X6_began | 1, _ => ly_X6_hours | 2, _ => ly_X6_paid | 3, _ => ly_X6_took | 4, _ => ly_X6_won | (j + 5), h => absurd h (by omega))
theorem inUX7 : ∀ w ∈ u_ws RX7 TX7 2, w ∈ wsU := u_all (fun k hk => match k, hk with | 0, _ => ly_X7_saved | 1, _ => ly_X7_filled | (j + 2), h => absurd h (by omega))
theorem inUX8 : ∀ w ∈ u_ws RX8 TX8 7, w ∈ wsU := u_all (fun k hk => match k, hk with | 0, _ => ly_X8_end | 1, _ => ly_X8_tie | 2, _ => ly_X8_sumStays | 3, _ => ly_X8_top | 4, _ => ly_X8_owns | 5, _ => ly_X8_foes | 6, _ => ly_X8_times | (j + 7), h => absurd h (by omega))
theorem inUX9 : ∀ w ∈ u_ws RX9 TX9 8, w ∈ wsU := u_all (fun k hk => match k, hk with | 0, _ => ly_X9_game | 1, _ => ly_X9_history | 2, _ => ly_X9_slotZero | 3, _ => ly_X9_slotOne | 4, _ => ly_X9_pad | 5, _ => ly_X9_memory | 6, _ => ly_X9_advice | 7, _ => ly_X9_foresight | (j + 8), h => absurd h (by omega))
theorem inUX10 : ∀ w ∈ u_ws RX10 TX10 15, w ∈ wsU := u_all (fun k hk => match k, hk with | 0, _ => ly_X10_all | 1, _ => ly_X10_history | 2, _ => ly_X10_historyLong | 3, _ => ly_X10_slots | 4, _ => ly_X10_isSaved | 5, _ => ly_X10_times | 6, _ => ly_X10_isKnown | 7, _ => ly_X10_knownRules | 8, _ => ly_X10_knownSum | 9, _ => ly_X10_text | 10, _ => ly_X10_textLong | 11, _ => ly_X10_spot | 12, _ => ly_X10_number | 13, _ => ly_X10_told | 14, _ => ly_X10_read | (j + 15), h => absurd h (by omega))
theorem gv_L_13 : GoodIn wsU (wsV RL 13 RX9 yX9_set (.code yX9_set cX9_set 4 (Option.some FieldType.int) :: wsU)) := good_V lm_L_13 li_X9_set lv_X9_set ln_X9 lc_X9_set
theorem gs_X9_63 : GoodIn wsU (wsS RX9 63 yX9_isSetting (.code yX9_isSetting cX9_isSetting 1 (Option.some FieldType.boolean) :: wsU)) := good_S lm_X9_63 ls_X9_isSetting ln_X9 lc_X9_isSetting
theorem gs_X9_87 : GoodIn wsU (wsS RX9 87 yX9_isBetween (.code yX9_isBetween cX9_isBetween 3 (Option.some FieldType.boolean) :: wsU)) := good_S lm_X9_87 ls_X9_isBetween ln_X9 lc_X9_isBetween
theorem gs_X9_67 : GoodIn wsU (wsS RX9 67 yX9_leastSetting (.code yX9_leastSetting cX9_leastSetting 1 (Option.some FieldType.int) :: wsU)) := good_S lm_X9_67 ls_X9_leastSetting ln_X9 lc_X9_leastSetting
theorem gs_X9_71 : GoodIn wsU (wsS RX9 71 yX9_mostSetting (.code yX9_mostSetting cX9_mostSetting 1 (Option.some FieldType.int) :: wsU)) := good_S lm_X9_71 ls_X9_mostSetting ln_X9 lc_X9_mostSetting
theorem gv_X9_74 : GoodIn wsU (wsV RX9 74 RX2 yX2_settingOf (.code yX2_settingOf cX2_settingOf 2 (Option.some FieldType.int) :: wsU)) := good_V lm_X9_74 li_X2_settingOf lv_X2_settingOf ln_X2 lc_X2_settingOf
theorem gv_X9_77 : GoodIn wsU (wsV RX9 77 RX3 yX3_keepState (.code yX3_keepState cX3_keepState 2 (Option.none : Option FieldType) :: wsU)) := good_V lm_X9_77 li_X3_keepState lv_X3_keepState ln_X3 lc_X3_keepState
theorem gv_X3_21 : GoodIn wsU (wsV RX3 21 RX3 yX3_dropOldest (.code yX3_dropOldest cX3_dropOldest 3 (Option.none : Option FieldType) :: wsU)) := good_V lm_X3_21 li_X3_dropOldest lv_X3_dropOldest ln_X3 lc_X3_dropOldest
theorem gv_X3_25 : GoodIn wsU (wsV RX3 25 RX2 yX2_copyFrom (.code yX2_copyFrom cX2_copyFrom 2 (Option.none : Option FieldType) :: wsU)) := good_V lm_X3_25 li_X2_copyFrom lv_X2_copyFrom ln_X2 lc_X2_copyFrom
theorem gv_X2_46 : GoodIn wsU (wsV RX2 46 RX6 yX6_copyFrom (.code yX6_copyFrom cX6_copyFrom 2 (Option.none : Option FieldType) :: wsU)) := good_V lm_X2_46 li_X6_copyFrom lv_X6_copyFrom ln_X6 lc_X6_copyFrom
theorem gv_X9_80 : GoodIn wsU (wsV RX9 80 RX2 yX2_changeSetting (.code yX2_changeSetting cX2_changeSetting 3 (Option.none : Option FieldType) :: wsU)) := good_V lm_X9_80 li_X2_changeSetting lv_X2_changeSetting ln_X2 lc_X2_changeSetting
theorem gv_X9_84 : GoodIn wsU (wsV RX9 84 RX2 yX2_startAnew (.code yX2_startAnew cX2_startAnew 1 (Option.none : Option FieldType) :: wsU)) := good_V lm_X9_84 li_X2_startAnew lv_X2_startAnew ln_X2 lc_X2_startAnew
theorem gv_X2_50 : GoodIn wsU (wsV RX2 50 RX6 yX6_startAnew (.code yX6_startAnew cX6_startAnew 1 (Option.none : Option FieldType) :: wsU)) := good_V lm_X2_50 li_X6_startAnew lv_X6_startAnew ln_X6 lc_X6_startAnew
theorem gv_L_18 : GoodIn wsU (wsV RL 18 RX9 yX9_begin (.code yX9_begin cX9_begin 4 (Option.some FieldType.int) :: wsU)) := good_V lm_L_18 li_X9_begin lv_X9_begin ln_X9 lc_X9_begin
theorem gv_L_22 : GoodIn wsU (wsV RL 22 RX9 yX9_round (.code yX9_round cX9_round 3 (Option.some FieldType.int) :: wsU)) := good_V lm_L_22 li_X9_round lv_X9_round ln_X9 lc_X9_round
theorem gv_X9_107 : GoodIn wsU (wsV RX9 107 RX2 yX2_allows (.code yX2_allows cX2_allows 3 (Option.some FieldType.boolean) :: wsU)) := good_V lm_X9_107 li_X2_allows lv_X2_allows ln_X2 lc_X2_allows
theorem gv_X2_64 : GoodIn wsU (wsV RX2 64 RX2 yX2_isOver (.code yX2_isOver cX2_isOver 1 (Option.some FieldType.boolean) :: wsU)) := good_V lm_X2_64 li_X2_isOver lv_X2_isOver ln_X2 lc_X2_isOver
theorem gv_X2_53 : GoodIn wsU (wsV RX2 53 RX2 yX2_winner (.code yX2_winner cX2_winner 1 (Option.some FieldType.int) :: wsU)) := good_V lm_X2_53 li_X2_winner lv_X2_winner ln_X2 lc_X2_winner
theorem gv_X2_68 : GoodIn wsU (wsV RX2 68 RX2 yX2_mostOf (.code yX2_mostOf cX2_mostOf 2 (Option.some FieldType.int) :: wsU)) := good_V lm_X2_68 li_X2_mostOf lv_X2_mostOf ln_X2 lc_X2_mostOf
theorem gv_X2_57 : GoodIn wsU (wsV RX2 57 RX2 yX2_sideOf (.code yX2_sideOf cX2_sideOf 2 (Option.some (FieldType.object "BorrowedHours$Side")) :: wsU)) := good_V lm_X2_57 li_X2_sideOf lv_X2_sideOf ln_X2 lc_X2_sideOf
theorem gv_X9_111 : GoodIn wsU (wsV RX9 111 RX2 yX2_playRound (.code yX2_playRound cX2_playRound 7 (Option.some FieldType.int) :: wsU)) := good_V lm_X9_111 li_X2_playRound lv_X2_playRound ln_X2 lc_X2_playRound
theorem gv_X2_72 : GoodIn wsU (wsV RX2 72 RX2 yX2_takerOf (.code yX2_takerOf cX2_takerOf 4 (Option.some FieldType.int) :: wsU)) := good_V lm_X2_72 li_X2_takerOf lv_X2_takerOf ln_X2 lc_X2_takerOf
theorem gv_X2_82 : GoodIn wsU (wsV RX2 82 RX2 yX2_gainOf (.code yX2_gainOf cX2_gainOf 2 (Option.some FieldType.int) :: wsU)) := good_V lm_X2_82 li_X2_gainOf lv_X2_gainOf ln_X2 lc_X2_gainOf
theorem gv_L_26 : GoodIn wsU (wsV RL 26 RX9 yX9_play (.code yX9_play cX9_play 4 (Option.some FieldType.int) :: wsU)) := good_V lm_L_26 li_X9_play lv_X9_play ln_X9 lc_X9_play
theorem gv_X9_115 : GoodIn wsU (wsV RX9 115 RX2 yX2_isOver (.code yX2_isOver cX2_isOver 1 (Option.some FieldType.boolean) :: wsU)) := good_V lm_X9_115 li_X2_isOver lv_X2_isOver ln_X2 lc_X2_isOver
theorem gv_X9_119 : GoodIn wsU (wsV RX9 119 RX9 yX9_timesNow (.code yX9_timesNow cX9_timesNow 1 (Option.some (FieldType.object "BorrowedHours$Times")) :: wsU)) := good_V lm_X9_119 li_X9_timesNow lv_X9_timesNow ln_X9 lc_X9_timesNow
theorem gv_X9_151 : GoodIn wsU (wsV RX9 151 RX2 yX2_mostOf (.code yX2_mostOf cX2_mostOf 2 (Option.some FieldType.int) :: wsU)) := good_V lm_X9_151 li_X2_mostOf lv_X2_mostOf ln_X2 lc_X2_mostOf
theorem gv_X9_221 : GoodIn wsU (wsV RX9 221 RX4 yX4_tableFor (.code yX4_tableFor cX4_tableFor 10 (Option.some (FieldType.object "BorrowedHours$Times")) :: wsU)) := good_V lm_X9_221 li_X4_tableFor lv_X4_tableFor ln_X4 lc_X4_tableFor
theorem gv_X4_41 : GoodIn wsU (wsV RX4 41 RX8 yX8_learnAll (.code yX8_learnAll cX8_learnAll 3 (Option.none : Option FieldType) :: wsU)) := good_V lm_X4_41 li_X8_learnAll lv_X8_learnAll ln_X8 lc_X8_learnAll
theorem gv_X8_41 : GoodIn wsU (wsV RX8 41 RX8 yX8_learnRounds (.code yX8_learnRounds cX8_learnRounds 7 (Option.some FieldType.boolean) :: wsU)) := good_V lm_X8_41 li_X8_learnRounds lv_X8_learnRounds ln_X8 lc_X8_learnRounds
theorem gv_X8_45 : GoodIn wsU (wsV RX8 45 RX8 yX8_bidForces (.code yX8_bidForces cX8_bidForces 7 (Option.some FieldType.boolean) :: wsU)) := good_V lm_X8_45 li_X8_bidForces lv_X8_bidForces ln_X8 lc_X8_bidForces
theorem gv_X8_52 : GoodIn wsU (wsV RX8 52 RX8 yX8_lost (.code yX8_lost cX8_lost 8 (Option.some FieldType.boolean) :: wsU)) := good_V lm_X8_52 li_X8_lost lv_X8_lost ln_X8 lc_X8_lost
theorem gv_X8_62 : GoodIn wsU (wsV RX8 62 RX8 yX8_timeAt (.code yX8_timeAt cX8_timeAt 7 (Option.some FieldType.int) :: wsU)) := good_V lm_X8_62 li_X8_timeAt lv_X8_timeAt ln_X8 lc_X8_timeAt
theorem gv_X8_56 : GoodIn wsU (wsV RX8 56 RX8 yX8_neverTakes (.code yX8_neverTakes cX8_neverTakes 2 (Option.some FieldType.boolean) :: wsU)) := good_V lm_X8_56 li_X8_neverTakes lv_X8_neverTakes ln_X8 lc_X8_neverTakes
theorem gv_X8_59 : GoodIn wsU (wsV RX8 59 RX8 yX8_taken (.code yX8_taken cX8_taken 8 (Option.some FieldType.boolean) :: wsU)) := good_V lm_X8_59 li_X8_taken lv_X8_taken ln_X8 lc_X8_taken
theorem gv_X8_49 : GoodIn wsU (wsV RX8 49 RX8 yX8_answerForces (.code yX8_answerForces cX8_answerForces 7 (Option.some FieldType.boolean) :: wsU)) := good_V lm_X8_49 li_X8_answerForces lv_X8_answerForces ln_X8 lc_X8_answerForces
theorem gv_X9_123 : GoodIn wsU (wsV RX9 123 RX0 yX0_findBid (.code yX0_findBid cX0_findBid 7 (Option.some FieldType.int) :: wsU)) := good_V lm_X9_123 li_X0_findBid lv_X0_findBid ln_X0 lc_X0_findBid
theorem gv_X0_21 : GoodIn wsU (wsV RX0 21 RX2 yX2_mostOf (.code yX2_mostOf cX2_mostOf 2 (Option.some FieldType.int) :: wsU)) := good_V lm_X0_21 li_X2_mostOf lv_X2_mostOf ln_X2 lc_X2_mostOf
theorem gv_X0_25 : GoodIn wsU (wsV RX0 25 RX0 yX0_longestOwn (.code yX0_longestOwn cX0_longestOwn 6 (Option.some FieldType.int) :: wsU)) := good_V lm_X0_25 li_X0_longestOwn lv_X0_longestOwn ln_X0 lc_X0_longestOwn
theorem gv_X0_36 : GoodIn wsU (wsV RX0 36 RX0 yX0_timeBehind (.code yX0_timeBehind cX0_timeBehind 13 (Option.some FieldType.int) :: wsU)) := good_V lm_X0_36 li_X0_timeBehind lv_X0_timeBehind ln_X0 lc_X0_timeBehind
theorem gv_X0_49 : GoodIn wsU (wsV RX0 49 RX2 yX2_takerOf (.code yX2_takerOf cX2_takerOf 4 (Option.some FieldType.int) :: wsU)) := good_V lm_X0_49 li_X2_takerOf lv_X2_takerOf ln_X2 lc_X2_takerOf
theorem gv_X0_52 : GoodIn wsU (wsV RX0 52 RX2 yX2_gainOf (.code yX2_gainOf cX2_gainOf 2 (Option.some FieldType.int) :: wsU)) := good_V lm_X0_52 li_X2_gainOf lv_X2_gainOf ln_X2 lc_X2_gainOf
theorem gv_X0_55 : GoodIn wsU (wsV RX0 55 RX2 yX2_toWin (.code yX2_toWin cX2_toWin 2 (Option.some FieldType.int) :: wsU)) := good_V lm_X0_55 li_X2_toWin lv_X2_toWin ln_X2 lc_X2_toWin
theorem gv_X0_58 : GoodIn wsU (wsV RX0 58 RX8 yX8_timeAt (.code yX8_timeAt cX8_timeAt 7 (Option.some FieldType.int) :: wsU)) := good_V lm_X0_58 li_X8_timeAt lv_X8_timeAt ln_X8 lc_X8_timeAt
theorem gv_X0_29 : GoodIn wsU (wsV RX0 29 RX0 yX0_findDelay (.code yX0_findDelay cX0_findDelay 7 (Option.some FieldType.int) :: wsU)) := good_V lm_X0_29 li_X0_findDelay lv_X0_findDelay ln_X0 lc_X0_findDelay
theorem gv_X0_33 : GoodIn wsU (wsV RX0 33 RX0 yX0_leastOther (.code yX0_leastOther cX0_leastOther 6 (Option.some FieldType.int) :: wsU)) := good_V lm_X0_33 li_X0_leastOther lv_X0_leastOther ln_X0 lc_X0_leastOther
theorem gv_X9_127 : GoodIn wsU (wsV RX9 127 RX0 yX0_findAnswer (.code yX0_findAnswer cX0_findAnswer 11 (Option.some FieldType.int) :: wsU)) := good_V lm_X9_127 li_X0_findAnswer lv_X0_findAnswer ln_X0 lc_X0_findAnswer
theorem gv_L_31 : GoodIn wsU (wsV RL 31 RX9 yX9_run (.code yX9_run cX9_run 2 (Option.some FieldType.int) :: wsU)) := good_V lm_L_31 li_X9_run lv_X9_run ln_X9 lc_X9_run
theorem gv_X9_131 : GoodIn wsU (wsV RX9 131 RX5 yX5_firstFault (.code yX5_firstFault cX5_firstFault 5 (Option.some FieldType.int) :: wsU)) := good_V lm_X9_131 li_X5_firstFault lv_X5_firstFault ln_X5 lc_X5_firstFault
theorem gv_X5_21 : GoodIn wsU (wsV RX5 21 RX5 yX5_signAt (.code yX5_signAt cX5_signAt 2 (Option.some FieldType.int) :: wsU)) := good_V lm_X5_21 li_X5_signAt lv_X5_signAt ln_X5 lc_X5_signAt
theorem gs_X5_25 : GoodIn wsU (wsS RX5 25 yX5_canStandAsDigit (.code yX5_canStandAsDigit cX5_canStandAsDigit 2 (Option.some FieldType.boolean) :: wsU)) := good_S lm_X5_25 ls_X5_canStandAsDigit ln_X5 lc_X5_canStandAsDigit
theorem gv_X9_135 : GoodIn wsU (wsV RX9 135 RX9 yX9_playPad (.code yX9_playPad cX9_playPad 6 (Option.some FieldType.int) :: wsU)) := good_V lm_X9_135 li_X9_playPad lv_X9_playPad ln_X9 lc_X9_playPad
theorem gv_X9_234 : GoodIn wsU (wsV RX9 234 RX5 yX5_signAt (.code yX5_signAt cX5_signAt 2 (Option.some FieldType.int) :: wsU)) := good_V lm_X9_234 li_X5_signAt lv_X5_signAt ln_X5 lc_X5_signAt
theorem gv_X9_138 : GoodIn wsU (wsV RX9 138 RX5 yX5_clear (.code yX5_clear cX5_clear 1 (Option.none : Option FieldType) :: wsU)) := good_V lm_X9_138 li_X5_clear lv_X5_clear ln_X5 lc_X5_clear
theorem gv_L_35 : GoodIn wsU (wsV RL 35 RX9 yX9_player (.code yX9_player cX9_player 5 (Option.some FieldType.int) :: wsU)) := good_V lm_L_35 li_X9_player lv_X9_player ln_X9 lc_X9_player
theorem gs_X9_141 : GoodIn wsU (wsS RX9 141 yX9_isPlayer (.code yX9_isPlayer cX9_isPlayer 1 (Option.some FieldType.boolean) :: wsU)) := good_S lm_X9_141 ls_X9_isPlayer ln_X9 lc_X9_isPlayer
theorem gv_X9_144 : GoodIn wsU (wsV RX9 144 RX2 yX2_sideOf (.code yX2_sideOf cX2_sideOf 2 (Option.some (FieldType.object "BorrowedHours$Side")) :: wsU)) := good_V lm_X9_144 li_X2_sideOf lv_X2_sideOf ln_X2 lc_X2_sideOf
theorem gv_X9_163 : GoodIn wsU (wsV RX9 163 RX9 yX9_timeWith (.code yX9_timeWith cX9_timeWith 5 (Option.some FieldType.int) :: wsU)) := good_V lm_X9_163 li_X9_timeWith lv_X9_timeWith ln_X9 lc_X9_timeWith
theorem gv_X9_225 : GoodIn wsU (wsV RX9 225 RX2 yX2_toWin (.code yX2_toWin cX2_toWin 2 (Option.some FieldType.int) :: wsU)) := good_V lm_X9_225 li_X2_toWin lv_X2_toWin ln_X2 lc_X2_toWin
theorem gv_X9_228 : GoodIn wsU (wsV RX9 228 RX8 yX8_timeAt (.code yX8_timeAt cX8_timeAt 7 (Option.some FieldType.int) :: wsU)) := good_V lm_X9_228 li_X8_timeAt lv_X8_timeAt ln_X8 lc_X8_timeAt
theorem gv_L_39 : GoodIn wsU (wsV RL 39 RX9 yX9_count (.code yX9_count cX9_count 2 (Option.some FieldType.int) :: wsU)) := good_V lm_L_39 li_X9_count lv_X9_count ln_X9 lc_X9_count
theorem gv_X9_172 : GoodIn wsU (wsV RX9 172 RX2 yX2_winner (.code yX2_winner cX2_winner 1 (Option.some FieldType.int) :: wsU)) := good_V lm_X9_172 li_X2_winner lv_X2_winner ln_X2 lc_X2_winner
theorem gv_L_44 : GoodIn wsU (wsV RL 44 RX9 yX9_forced (.code yX9_forced cX9_forced 3 (Option.some FieldType.int) :: wsU)) := good_V lm_L_44 li_X9_forced lv_X9_forced ln_X9 lc_X9_forced
theorem gv_L_48 : GoodIn wsU (wsV RL 48 RX9 yX9_ahead (.code yX9_ahead cX9_ahead 3 (Option.some FieldType.int) :: wsU)) := good_V lm_L_48 li_X9_ahead lv_X9_ahead ln_X9 lc_X9_ahead
theorem gv_X9_184 : GoodIn wsU (wsV RX9 184 RX1 yX1_seesWinOf (.code yX1_seesWinOf cX1_seesWinOf 5 (Option.some FieldType.boolean) :: wsU)) := good_V lm_X9_184 li_X1_seesWinOf lv_X1_seesWinOf ln_X1 lc_X1_seesWinOf
theorem gv_X1_15 : GoodIn wsU (wsV RX1 15 RX2 yX2_mostOf (.code yX2_mostOf cX2_mostOf 2 (Option.some FieldType.int) :: wsU)) := good_V lm_X1_15 li_X2_mostOf lv_X2_mostOf ln_X2 lc_X2_mostOf
theorem gv_X1_27 : GoodIn wsU (wsV RX1 27 RX2 yX2_toWin (.code yX2_toWin cX2_toWin 2 (Option.some FieldType.int) :: wsU)) := good_V lm_X1_27 li_X2_toWin lv_X2_toWin ln_X2 lc_X2_toWin
theorem gv_X1_34 : GoodIn wsU (wsV RX1 34 RX1 yX1_seesWin (.code yX1_seesWin cX1_seesWin 6 (Option.some FieldType.boolean) :: wsU)) := good_V lm_X1_34 li_X1_seesWin lv_X1_seesWin ln_X1 lc_X1_seesWin
theorem gv_X1_41 : GoodIn wsU (wsV RX1 41 RX1 yX1_seesBid (.code yX1_seesBid cX1_seesBid 6 (Option.some FieldType.boolean) :: wsU)) := good_V lm_X1_41 li_X1_seesBid lv_X1_seesBid ln_X1 lc_X1_seesBid
theorem gv_X1_48 : GoodIn wsU (wsV RX1 48 RX1 yX1_standsAllAnswers (.code yX1_standsAllAnswers cX1_standsAllAnswers 7 (Option.some FieldType.boolean) :: wsU)) := good_V lm_X1_48 li_X1_standsAllAnswers lv_X1_standsAllAnswers ln_X1 lc_X1_standsAllAnswers
theorem gv_X1_52 : GoodIn wsU (wsV RX1 52 RX1 yX1_canTake (.code yX1_canTake cX1_canTake 2 (Option.some FieldType.boolean) :: wsU)) := good_V lm_X1_52 li_X1_canTake lv_X1_canTake ln_X1 lc_X1_canTake
theorem gv_X1_56 : GoodIn wsU (wsV RX1 56 RX1 yX1_seesTaken (.code yX1_seesTaken cX1_seesTaken 7 (Option.some FieldType.boolean) :: wsU)) := good_V lm_X1_56 li_X1_seesTaken lv_X1_seesTaken ln_X1 lc_X1_seesTaken
theorem gv_X1_72 : GoodIn wsU (wsV RX1 72 RX2 yX2_gainOf (.code yX2_gainOf cX2_gainOf 2 (Option.some FieldType.int) :: wsU)) := good_V lm_X1_72 li_X2_gainOf lv_X2_gainOf ln_X2 lc_X2_gainOf
theorem gv_X1_60 : GoodIn wsU (wsV RX1 60 RX1 yX1_leastTaking (.code yX1_leastTaking cX1_leastTaking 2 (Option.some FieldType.int) :: wsU)) := good_V lm_X1_60 li_X1_leastTaking lv_X1_leastTaking ln_X1 lc_X1_leastTaking
theorem gv_X1_63 : GoodIn wsU (wsV RX1 63 RX1 yX1_seesLost (.code yX1_seesLost cX1_seesLost 7 (Option.some FieldType.boolean) :: wsU)) := good_V lm_X1_63 li_X1_seesLost lv_X1_seesLost ln_X1 lc_X1_seesLost
theorem gv_X1_45 : GoodIn wsU (wsV RX1 45 RX1 yX1_seesAnswers (.code yX1_seesAnswers cX1_seesAnswers 6 (Option.some FieldType.boolean) :: wsU)) := good_V lm_X1_45 li_X1_seesAnswers lv_X1_seesAnswers ln_X1 lc_X1_seesAnswers
theorem gv_X1_66 : GoodIn wsU (wsV RX1 66 RX1 yX1_hasAnswer (.code yX1_hasAnswer cX1_hasAnswer 7 (Option.some FieldType.boolean) :: wsU)) := good_V lm_X1_66 li_X1_hasAnswer lv_X1_hasAnswer ln_X1 lc_X1_hasAnswer
theorem gv_L_52 : GoodIn wsU (wsV RL 52 RX9 yX9_bestBid (.code yX9_bestBid cX9_bestBid 1 (Option.some FieldType.int) :: wsU)) := good_V lm_L_52 li_X9_bestBid lv_X9_bestBid ln_X9 lc_X9_bestBid
theorem gv_L_56 : GoodIn wsU (wsV RL 56 RX9 yX9_bestAnswer (.code yX9_bestAnswer cX9_bestAnswer 2 (Option.some FieldType.int) :: wsU)) := good_V lm_L_56 li_X9_bestAnswer lv_X9_bestAnswer ln_X9 lc_X9_bestAnswer
theorem gv_L_60 : GoodIn wsU (wsV RL 60 RX9 yX9_keeps (.code yX9_keeps cX9_keeps 1 (Option.some FieldType.int) :: wsU)) := good_V lm_L_60 li_X9_keeps lv_X9_keeps ln_X9 lc_X9_keeps
theorem gv_X9_187 : GoodIn wsU (wsV RX9 187 RX0 yX0_countKeeping (.code yX0_countKeeping cX0_countKeeping 5 (Option.some FieldType.int) :: wsU)) := good_V lm_X9_187 li_X0_countKeeping lv_X0_countKeeping ln_X0 lc_X0_countKeeping
theorem gv_L_64 : GoodIn wsU (wsV RL 64 RX9 yX9_leastHours (.code yX9_leastHours cX9_leastHours 3 (Option.some FieldType.int) :: wsU)) := good_V lm_L_64 li_X9_leastHours lv_X9_leastHours ln_X9 lc_X9_leastHours
theorem gv_L_70 : GoodIn wsU (wsV RL 70 RX9 yX9_put (.code yX9_put cX9_put 4 (Option.some FieldType.int) :: wsU)) := good_V lm_L_70 li_X9_put lv_X9_put ln_X9 lc_X9_put
theorem gs_X9_193 : GoodIn wsU (wsS RX9 193 yX5_countSigns (.code yX5_countSigns cX5_countSigns 6 (Option.some FieldType.int) :: wsU)) := good_S lm_X9_193 ls_X5_countSigns ln_X9 lc_X5_countSigns
theorem gv_X9_197 : GoodIn wsU (wsV RX9 197 RX5 yX5_append (.code yX5_append cX5_append 5 (Option.none : Option FieldType) :: wsU)) := good_V lm_X9_197 li_X5_append lv_X5_append ln_X5 lc_X5_append
theorem gv_L_75 : GoodIn wsU (wsV RL 75 RX9 yX9_wipe (.code yX9_wipe cX9_wipe 2 (Option.some FieldType.int) :: wsU)) := good_V lm_L_75 li_X9_wipe lv_X9_wipe ln_X9 lc_X9_wipe
theorem gv_L_79 : GoodIn wsU (wsV RL 79 RX9 yX9_fault (.code yX9_fault cX9_fault 1 (Option.some FieldType.int) :: wsU)) := good_V lm_L_79 li_X9_fault lv_X9_fault ln_X9 lc_X9_fault
theorem gv_L_83 : GoodIn wsU (wsV RL 83 RX9 yX9_undo (.code yX9_undo cX9_undo 1 (Option.some FieldType.int) :: wsU)) := good_V lm_L_83 li_X9_undo lv_X9_undo ln_X9 lc_X9_undo
theorem gv_X9_201 : GoodIn wsU (wsV RX9 201 RX3 yX3_takeBack (.code yX3_takeBack cX3_takeBack 3 (Option.none : Option FieldType) :: wsU)) := good_V lm_X9_201 li_X3_takeBack lv_X3_takeBack ln_X3 lc_X3_takeBack
theorem gv_L_87 : GoodIn wsU (wsV RL 87 RX9 yX9_save (.code yX9_save cX9_save 3 (Option.some FieldType.int) :: wsU)) := good_V lm_L_87 li_X9_save lv_X9_save ln_X9 lc_X9_save
theorem gs_X9_204 : GoodIn wsU (wsS RX9 204 yX9_isSlot (.code yX9_isSlot cX9_isSlot 1 (Option.some FieldType.boolean) :: wsU)) := good_S lm_X9_204 ls_X9_isSlot ln_X9 lc_X9_isSlot
theorem gv_X9_207 : GoodIn wsU (wsV RX9 207 RX9 yX9_slotOf (.code yX9_slotOf cX9_slotOf 2 (Option.some (FieldType.object "BorrowedHours$Slot")) :: wsU)) := good_V lm_X9_207 li_X9_slotOf lv_X9_slotOf ln_X9 lc_X9_slotOf
theorem gv_X9_214 : GoodIn wsU (wsV RX9 214 RX2 yX2_copyFrom (.code yX2_copyFrom cX2_copyFrom 2 (Option.none : Option FieldType) :: wsU)) := good_V lm_X9_214 li_X2_copyFrom lv_X2_copyFrom ln_X2 lc_X2_copyFrom
theorem gv_L_91 : GoodIn wsU (wsV RL 91 RX9 yX9_restore (.code yX9_restore cX9_restore 3 (Option.some FieldType.int) :: wsU)) := good_V lm_L_91 li_X9_restore lv_X9_restore ln_X9 lc_X9_restore
theorem gv_X10_31 : GoodIn wsU (wsV RX10 31 RX10 yX10_newGame (.code yX10_newGame cX10_newGame 2 (Option.none : Option FieldType) :: wsU)) := good_V lm_X10_31 li_X10_newGame lv_X10_newGame ln_X10 lc_X10_newGame
theorem gv_L_17 : GoodIn wsU (wsV RL 17 RX10 yX10_set (.code yX10_set cX10_set 4 (Option.some FieldType.int) :: wsU)) := good_V lm_L_17 li_X10_set lv_X10_set ln_X10 lc_X10_set
theorem gs_X10_101 : GoodIn wsU (wsS RX10 101 yX10_isSetting (.code yX10_isSetting cX10_isSetting 2 (Option.some FieldType.boolean) :: wsU)) := good_S lm_X10_101 ls_X10_isSetting ln_X10 lc_X10_isSetting
theorem gs_X10_95 : GoodIn wsU (wsS RX10 95 yX10_in (.code yX10_in cX10_in 6 (Option.some FieldType.boolean) :: wsU)) := good_S lm_X10_95 ls_X10_in ln_X10 lc_X10_in
theorem gv_X10_105 : GoodIn wsU (wsV RX10 105 RX10 yX10_changes (.code yX10_changes cX10_changes 2 (Option.none : Option FieldType) :: wsU)) := good_V lm_X10_105 li_X10_changes lv_X10_changes ln_X10 lc_X10_changes
theorem gv_L_21 : GoodIn wsU (wsV RL 21 RX10 yX10_begin (.code yX10_begin cX10_begin 4 (Option.some FieldType.int) :: wsU)) := good_V lm_L_21 li_X10_begin lv_X10_begin ln_X10 lc_X10_begin
theorem gv_L_25 : GoodIn wsU (wsV RL 25 RX10 yX10_round (.code yX10_round cX10_round 3 (Option.some FieldType.int) :: wsU)) := good_V lm_L_25 li_X10_round lv_X10_round ln_X10 lc_X10_round
theorem gv_X10_112 : GoodIn wsU (wsV RX10 112 RX10 yX10_canPlay (.code yX10_canPlay cX10_canPlay 3 (Option.some FieldType.boolean) :: wsU)) := good_V lm_X10_112 li_X10_canPlay lv_X10_canPlay ln_X10 lc_X10_canPlay
theorem gv_X10_46 : GoodIn wsU (wsV RX10 46 RX10 yX10_isOver (.code yX10_isOver cX10_isOver 1 (Option.some FieldType.boolean) :: wsU)) := good_V lm_X10_46 li_X10_isOver lv_X10_isOver ln_X10 lc_X10_isOver
theorem gv_X10_38 : GoodIn wsU (wsV RX10 38 RX10 yX10_winnerAt (.code yX10_winnerAt cX10_winnerAt 2 (Option.some FieldType.int) :: wsU)) := good_V lm_X10_38 li_X10_winnerAt lv_X10_winnerAt ln_X10 lc_X10_winnerAt
theorem gv_X10_50 : GoodIn wsU (wsV RX10 50 RX10 yX10_most (.code yX10_most cX10_most 2 (Option.some FieldType.int) :: wsU)) := good_V lm_X10_50 li_X10_most lv_X10_most ln_X10 lc_X10_most
theorem gv_X10_115 : GoodIn wsU (wsV RX10 115 RX10 yX10_plays (.code yX10_plays cX10_plays 6 (Option.some FieldType.int) :: wsU)) := good_V lm_X10_115 li_X10_plays lv_X10_plays ln_X10 lc_X10_plays
theorem gv_X10_42 : GoodIn wsU (wsV RX10 42 RX10 yX10_taker (.code yX10_taker cX10_taker 4 (Option.some FieldType.int) :: wsU)) := good_V lm_X10_42 li_X10_taker lv_X10_taker ln_X10 lc_X10_taker
theorem gv_L_30 : GoodIn wsU (wsV RL 30 RX10 yX10_play (.code yX10_play cX10_play 3 (Option.some FieldType.int) :: wsU)) := good_V lm_L_30 li_X10_play lv_X10_play ln_X10 lc_X10_play
theorem gv_X10_119 : GoodIn wsU (wsV RX10 119 RX10 yX10_bestBid (.code yX10_bestBid cX10_bestBid 8 (Option.some FieldType.int) :: wsU)) := good_V lm_X10_119 li_X10_bestBid lv_X10_bestBid ln_X10 lc_X10_bestBid
theorem gv_X10_86 : GoodIn wsU (wsV RX10 86 RX10 yX10_knows (.code yX10_knows cX10_knows 6 (Option.none : Option FieldType) :: wsU)) := good_V lm_X10_86 li_X10_knows lv_X10_knows ln_X10 lc_X10_knows
theorem gv_X10_82 : GoodIn wsU (wsV RX10 82 RX10 yX10_worksOutAll (.code yX10_worksOutAll cX10_worksOutAll 5 (Option.none : Option FieldType) :: wsU)) := good_V lm_X10_82 li_X10_worksOutAll lv_X10_worksOutAll ln_X10 lc_X10_worksOutAll
theorem gv_X10_65 : GoodIn wsU (wsV RX10 65 RX10 yX10_lowest (.code yX10_lowest cX10_lowest 1 (Option.some FieldType.int) :: wsU)) := good_V lm_X10_65 li_X10_lowest lv_X10_lowest ln_X10 lc_X10_lowest
theorem gv_X10_69 : GoodIn wsU (wsV RX10 69 RX10 yX10_worksOut (.code yX10_worksOut cX10_worksOut 9 (Option.none : Option FieldType) :: wsU)) := good_V lm_X10_69 li_X10_worksOut lv_X10_worksOut ln_X10 lc_X10_worksOut
theorem gs_X10_53 : GoodIn wsU (wsS RX10 53 yX10_at (.code yX10_at cX10_at 6 (Option.some FieldType.int) :: wsU)) := good_S lm_X10_53 ls_X10_at ln_X10 lc_X10_at
theorem gv_X10_61 : GoodIn wsU (wsV RX10 61 RX10 yX10_canForce (.code yX10_canForce cX10_canForce 16 (Option.some FieldType.boolean) :: wsU)) := good_V lm_X10_61 li_X10_canForce lv_X10_canForce ln_X10 lc_X10_canForce
theorem gv_X10_57 : GoodIn wsU (wsV RX10 57 RX10 yX10_behind (.code yX10_behind cX10_behind 13 (Option.some FieldType.int) :: wsU)) := good_V lm_X10_57 li_X10_behind lv_X10_behind ln_X10 lc_X10_behind
theorem gv_X10_143 : GoodIn wsU (wsV RX10 143 RX10 yX10_worstBehind (.code yX10_worstBehind cX10_worstBehind 5 (Option.some FieldType.int) :: wsU)) := good_V lm_X10_143 li_X10_worstBehind lv_X10_worstBehind ln_X10 lc_X10_worstBehind
theorem gv_X10_140 : GoodIn wsU (wsV RX10 140 RX10 yX10_timeBehind (.code yX10_timeBehind cX10_timeBehind 5 (Option.some FieldType.int) :: wsU)) := good_V lm_X10_140 li_X10_timeBehind lv_X10_timeBehind ln_X10 lc_X10_timeBehind
theorem gv_X10_146 : GoodIn wsU (wsV RX10 146 RX10 yX10_othersBehind (.code yX10_othersBehind cX10_othersBehind 5 (Option.some FieldType.int) :: wsU)) := good_V lm_X10_146 li_X10_othersBehind lv_X10_othersBehind ln_X10 lc_X10_othersBehind
theorem gv_X10_122 : GoodIn wsU (wsV RX10 122 RX10 yX10_answerTo (.code yX10_answerTo cX10_answerTo 9 (Option.some FieldType.int) :: wsU)) := good_V lm_X10_122 li_X10_answerTo lv_X10_answerTo ln_X10 lc_X10_answerTo
theorem gv_L_38 : GoodIn wsU (wsV RL 38 RX10 yX10_player (.code yX10_player cX10_player 3 (Option.some FieldType.int) :: wsU)) := good_V lm_L_38 li_X10_player lv_X10_player ln_X10 lc_X10_player
theorem gs_X10_125 : GoodIn wsU (wsS RX10 125 yX10_isPlayer (.code yX10_isPlayer cX10_isPlayer 1 (Option.some FieldType.boolean) :: wsU)) := good_S lm_X10_125 ls_X10_isPlayer ln_X10 lc_X10_isPlayer
theorem gv_X10_129 : GoodIn wsU (wsV RX10 129 RX10 yX10_timeOf (.code yX10_timeOf cX10_timeOf 2 (Option.some FieldType.int) :: wsU)) := good_V lm_X10_129 li_X10_timeOf lv_X10_timeOf ln_X10 lc_X10_timeOf
theorem gv_X10_90 : GoodIn wsU (wsV RX10 90 RX10 yX10_timeWith (.code yX10_timeWith cX10_timeWith 4 (Option.some FieldType.int) :: wsU)) := good_V lm_X10_90 li_X10_timeWith lv_X10_timeWith ln_X10 lc_X10_timeWith
theorem gv_L_43 : GoodIn wsU (wsV RL 43 RX10 yX10_count (.code yX10_count cX10_count 2 (Option.some FieldType.int) :: wsU)) := good_V lm_L_43 li_X10_count lv_X10_count ln_X10 lc_X10_count
theorem gv_L_47 : GoodIn wsU (wsV RL 47 RX10 yX10_forced (.code yX10_forced cX10_forced 3 (Option.some FieldType.int) :: wsU)) := good_V lm_L_47 li_X10_forced lv_X10_forced ln_X10 lc_X10_forced
theorem gv_L_51 : GoodIn wsU (wsV RL 51 RX10 yX10_ahead (.code yX10_ahead cX10_ahead 3 (Option.some FieldType.int) :: wsU)) := good_V lm_L_51 li_X10_ahead lv_X10_ahead ln_X10 lc_X10_ahead
theorem gv_X10_137 : GoodIn wsU (wsV RX10 137 RX10 yX10_forced (.code yX10_forced cX10_forced 3 (Option.some FieldType.int) :: wsU)) := good_V lm_X10_137 li_X10_forced lv_X10_forced ln_X10 lc_X10_forced
theorem gv_L_55 : GoodIn wsU (wsV RL 55 RX10 yX10_bestBid (.code yX10_bestBid cX10_bestBid 8 (Option.some FieldType.int) :: wsU)) := good_V lm_L_55 li_X10_bestBid lv_X10_bestBid ln_X10 lc_X10_bestBid
theorem gv_L_59 : GoodIn wsU (wsV RL 59 RX10 yX10_bestAnswer (.code yX10_bestAnswer cX10_bestAnswer 2 (Option.some FieldType.int) :: wsU)) := good_V lm_L_59 li_X10_bestAnswer lv_X10_bestAnswer ln_X10 lc_X10_bestAnswer
theorem gv_L_63 : GoodIn wsU (wsV RL 63 RX10 yX10_keeps (.code yX10_keeps cX10_keeps 3 (Option.some FieldType.int) :: wsU)) := good_V lm_L_63 li_X10_keeps lv_X10_keeps ln_X10 lc_X10_keeps
theorem gv_L_67 : GoodIn wsU (wsV RL 67 RX10 yX10_leastHours (.code yX10_leastHours cX10_leastHours 5 (Option.some FieldType.int) :: wsU)) := good_V lm_L_67 li_X10_leastHours lv_X10_leastHours ln_X10 lc_X10_leastHours
theorem gv_L_74 : GoodIn wsU (wsV RL 74 RX10 yX10_put (.code yX10_put cX10_put 5 (Option.some FieldType.int) :: wsU)) := good_V lm_L_74 li_X10_put lv_X10_put ln_X10 lc_X10_put
theorem gs_X10_155 : GoodIn wsU (wsS RX10 155 yX10_charactersOf (.code yX10_charactersOf cX10_charactersOf 5 (Option.some FieldType.int) :: wsU)) := good_S lm_X10_155 ls_X10_charactersOf ln_X10 lc_X10_charactersOf
theorem gv_L_78 : GoodIn wsU (wsV RL 78 RX10 yX10_wipe (.code yX10_wipe cX10_wipe 2 (Option.some FieldType.int) :: wsU)) := good_V lm_L_78 li_X10_wipe lv_X10_wipe ln_X10 lc_X10_wipe
theorem gv_L_82 : GoodIn wsU (wsV RL 82 RX10 yX10_fault (.code yX10_fault cX10_fault 2 (Option.some FieldType.int) :: wsU)) := good_V lm_L_82 li_X10_fault lv_X10_fault ln_X10 lc_X10_fault
theorem gv_X10_177 : GoodIn wsU (wsV RX10 177 RX10 yX10_readsRound (.code yX10_readsRound cX10_readsRound 1 (Option.some FieldType.boolean) :: wsU)) := good_V lm_X10_177 li_X10_readsRound lv_X10_readsRound ln_X10 lc_X10_readsRound
theorem gv_X10_168 : GoodIn wsU (wsV RX10 168 RX10 yX10_readsBid (.code yX10_readsBid cX10_readsBid 1 (Option.some FieldType.boolean) :: wsU)) := good_V lm_X10_168 li_X10_readsBid lv_X10_readsBid ln_X10 lc_X10_readsBid
theorem gv_X10_162 : GoodIn wsU (wsV RX10 162 RX10 yX10_isHere (.code yX10_isHere cX10_isHere 3 (Option.some FieldType.boolean) :: wsU)) := good_V lm_X10_162 li_X10_isHere lv_X10_isHere ln_X10 lc_X10_isHere
theorem gv_X10_174 : GoodIn wsU (wsV RX10 174 RX10 yX10_takesOne (.code yX10_takesOne cX10_takesOne 3 (Option.some FieldType.boolean) :: wsU)) := good_V lm_X10_174 li_X10_takesOne lv_X10_takesOne ln_X10 lc_X10_takesOne
theorem gv_L_34 : GoodIn wsU (wsV RL 34 RX10 yX10_run (.code yX10_run cX10_run 3 (Option.some FieldType.int) :: wsU)) := good_V lm_L_34 li_X10_run lv_X10_run ln_X10 lc_X10_run
theorem gv_X10_180 : GoodIn wsU (wsV RX10 180 RX10 yX10_fault (.code yX10_fault cX10_fault 2 (Option.some FieldType.int) :: wsU)) := good_V lm_X10_180 li_X10_fault lv_X10_fault ln_X10 lc_X10_fault
theorem gv_L_86 : GoodIn wsU (wsV RL 86 RX10 yX10_undo (.code yX10_undo cX10_undo 2 (Option.some FieldType.int) :: wsU)) := good_V lm_L_86 li_X10_undo lv_X10_undo ln_X10 lc_X10_undo
theorem gv_L_90 : GoodIn wsU (wsV RL 90 RX10 yX10_save (.code yX10_save cX10_save 3 (Option.some FieldType.int) :: wsU)) := good_V lm_L_90 li_X10_save lv_X10_save ln_X10 lc_X10_save
theorem gv_L_94 : GoodIn wsU (wsV RL 94 RX10 yX10_restore (.code yX10_restore cX10_restore 3 (Option.some FieldType.int) :: wsU)) := good_V lm_L_94 li_X10_restore lv_X10_restore ln_X10 lc_X10_restore
theorem yv_X9_init : yX9_init.name = "<init>" ∧ yX9_init.cls ≠ "java/lang/invoke/MethodHandle" ∧ yX9_init.cls ≠ "java/lang/invoke/VarHandle" ∧ (parseMethodDescriptor yX9_init.desc).map (fun d => d.parameters.length) = some 0 := by decide +kernel
theorem yv_X2_init : yX2_init.name = "<init>" ∧ yX2_init.cls ≠ "java/lang/invoke/MethodHandle" ∧ yX2_init.cls ≠ "java/lang/invoke/VarHandle" ∧ (parseMethodDescriptor yX2_init.desc).map (fun d => d.parameters.length) = some 0 := by decide +kernel
theorem yv_X6_init : yX6_init.name = "<init>" ∧ yX6_init.cls ≠ "java/lang/invoke/MethodHandle" ∧ yX6_init.cls ≠ "java/lang/invoke/VarHandle" ∧ (parseMethodDescriptor yX6_init.desc).map (fun d => d.parameters.length) = some 0 := by decide +kernel
theorem yv_X3_init : yX3_init.name = "<init>" ∧ yX3_init.cls ≠ "java/lang/invoke/MethodHandle" ∧ yX3_init.cls ≠ "java/lang/invoke/VarHandle" ∧ (parseMethodDescriptor yX3_init.desc).map (fun d => d.parameters.length) = some 0 := by decide +kernel
theorem yv_X7_init : yX7_init.name = "<init>" ∧ yX7_init.cls ≠ "java/lang/invoke/MethodHandle" ∧ yX7_init.cls ≠ "java/lang/invoke/VarHandle" ∧ (parseMethodDescriptor yX7_init.desc).map (fun d => d.parameters.length) = some 0 := by decide +kernel
theorem yv_X5_init : yX5_init.name = "<init>" ∧ yX5_init.cls ≠ "java/lang/invoke/MethodHandle" ∧ yX5_init.cls ≠ "java/lang/invoke/VarHandle" ∧ (parseMethodDescriptor yX5_init.desc).map (fun d => d.parameters.length) = some 0 := by decide +kernel
theorem yv_X4_init : yX4_init.name = "<init>" ∧ yX4_init.cls ≠ "java/lang/invoke/MethodHandle" ∧ yX4_init.cls ≠ "java/lang/invoke/VarHandle" ∧ (parseMethodDescriptor yX4_init.desc).map (fun d => d.parameters.length) = some 0 := by decide +kernel
theorem yv_X0_init : yX0_init.name = "<init>" ∧ yX0_init.cls ≠ "java/lang/invoke/MethodHandle" ∧ yX0_init.cls ≠ "java/lang/invoke/VarHandle" ∧ (parseMethodDescriptor yX0_init.desc).map (fun d => d.parameters.length) = some 1 := by decide +kernel
theorem yv_X1_init : yX1_init.name = "<init>" ∧ yX1_init.cls ≠ "java/lang/invoke/MethodHandle" ∧ yX1_init.cls ≠ "java/lang/invoke/VarHandle" ∧ (parseMethodDescriptor yX1_init.desc).map (fun d => d.parameters.length) = some 1 := by decide +kernel
theorem yv_X9_set : yX9_set.cls = RX9 ∧ yX9_set.cls ≠ "java/lang/invoke/MethodHandle" ∧ yX9_set.cls ≠ "java/lang/invoke/VarHandle" ∧ (parseMethodDescriptor yX9_set.desc).map (fun d => d.parameters.length) = some 2 := by decide +kernel
theorem yv_X9_isSetting : yX9_isSetting.cls = RX9 ∧ yX9_isSetting.cls ≠ "java/lang/invoke/MethodHandle" ∧ yX9_isSetting.cls ≠ "java/lang/invoke/VarHandle" ∧ (parseMethodDescriptor yX9_isSetting.desc).map (fun d => d.parameters.length) = some 1 := by decide +kernel
theorem yv_X9_isBetween : yX9_isBetween.cls = RX9 ∧ yX9_isBetween.cls ≠ "java/lang/invoke/MethodHandle" ∧ yX9_isBetween.cls ≠ "java/lang/invoke/VarHandle" ∧ (parseMethodDescriptor yX9_isBetween.desc).map (fun d => d.parameters.length) = some 3 := by decide +kernel
theorem yv_X9_leastSetting : yX9_leastSetting.cls = RX9 ∧ yX9_leastSetting.cls ≠ "java/lang/invoke/MethodHandle" ∧ yX9_leastSetting.cls ≠ "java/lang/invoke/VarHandle" ∧ (parseMethodDescriptor yX9_leastSetting.desc).map (fun d => d.parameters.length) = some 1 := by decide +kernel
theorem yv_X9_mostSetting : yX9_mostSetting.cls = RX9 ∧ yX9_mostSetting.cls ≠ "java/lang/invoke/MethodHandle" ∧ yX9_mostSetting.cls ≠ "java/lang/invoke/VarHandle" ∧ (parseMethodDescriptor yX9_mostSetting.desc).map (fun d => d.parameters.length) = some 1 := by decide +kernel
theorem yv_X2_settingOf : yX2_settingOf.cls = RX2 ∧ yX2_settingOf.cls ≠ "java/lang/invoke/MethodHandle" ∧ yX2_settingOf.cls ≠ "java/lang/invoke/VarHandle" ∧ (parseMethodDescriptor yX2_settingOf.desc).map (fun d => d.parameters.length) = some 1 := by decide +kernel
theorem yv_X3_keepState : yX3_keepState.cls = RX3 ∧ yX3_keepState.cls ≠ "java/lang/invoke/MethodHandle" ∧ yX3_keepState.cls ≠ "java/lang/invoke/VarHandle" ∧ (parseMethodDescriptor yX3_keepState.desc).map (fun d => d.parameters.length) = some 1 := by decide +kernel
theorem yv_X3_dropOldest : yX3_dropOldest.cls = RX3 ∧ yX3_dropOldest.cls ≠ "java/lang/invoke/MethodHandle" ∧ yX3_dropOldest.cls ≠ "java/lang/invoke/VarHandle" ∧ (parseMethodDescriptor yX3_dropOldest.desc).map (fun d => d.parameters.length) = some 0 := by decide +kernel
theorem yv_X2_copyFrom : yX2_copyFrom.cls = RX2 ∧ yX2_copyFrom.cls ≠ "java/lang/invoke/MethodHandle" ∧ yX2_copyFrom.cls ≠ "java/lang/invoke/VarHandle" ∧ (parseMethodDescriptor yX2_copyFrom.desc).map (fun d => d.parameters.length) = some 1 := by decide +kernel
theorem yv_X6_copyFrom : yX6_copyFrom.cls = RX6 ∧ yX6_copyFrom.cls ≠ "java/lang/invoke/MethodHandle" ∧ yX6_copyFrom.cls ≠ "java/lang/invoke/VarHandle" ∧ (parseMethodDescriptor yX6_copyFrom.desc).map (fun d => d.parameters.length) = some 1 := by decide +kernel
theorem yv_X2_changeSetting : yX2_changeSetting.cls = RX2 ∧ yX2_changeSetting.cls ≠ "java/lang/invoke/MethodHandle" ∧ yX2_changeSetting.cls ≠ "java/lang/invoke/VarHandle" ∧ (parseMethodDescriptor yX2_changeSetting.desc).map (fun d => d.parameters.length) = some 2 := by decide +kernel
theorem yv_X2_startAnew : yX2_startAnew.cls = RX2 ∧ yX2_startAnew.cls ≠ "java/lang/invoke/MethodHandle" ∧ yX2_startAnew.cls ≠ "java/lang/invoke/VarHandle" ∧ (parseMethodDescriptor yX2_startAnew.desc).map (fun d => d.parameters.length) = some 0 := by decide +kernel
theorem yv_X6_startAnew : yX6_startAnew.cls = RX6 ∧ yX6_startAnew.cls ≠ "java/lang/invoke/MethodHandle" ∧ yX6_startAnew.cls ≠ "java/lang/invoke/VarHandle" ∧ (parseMethodDescriptor yX6_startAnew.desc).map (fun d => d.parameters.length) = some 0 := by decide +kernel
theorem yv_X9_begin : yX9_begin.cls = RX9 ∧ yX9_begin.cls ≠ "java/lang/invoke/MethodHandle" ∧ yX9_begin.cls ≠ "java/lang/invoke/VarHandle" ∧ (parseMethodDescriptor yX9_begin.desc).map (fun d => d.parameters.length) = some 2 := by decide +kernel
theorem yv_X9_round : yX9_round.cls = RX9 ∧ yX9_round.cls ≠ "java/lang/invoke/MethodHandle" ∧ yX9_round.cls ≠ "java/lang/invoke/VarHandle" ∧ (parseMethodDescriptor yX9_round.desc).map (fun d => d.parameters.length) = some 2 := by decide +kernel
theorem yv_X2_allows : yX2_allows.cls = RX2 ∧ yX2_allows.cls ≠ "java/lang/invoke/MethodHandle" ∧ yX2_allows.cls ≠ "java/lang/invoke/VarHandle" ∧ (parseMethodDescriptor yX2_allows.desc).map (fun d => d.parameters.length) = some 2 := by decide +kernel
theorem yv_X2_isOver : yX2_isOver.cls = RX2 ∧ yX2_isOver.cls ≠ "java/lang/invoke/MethodHandle" ∧ yX2_isOver.cls ≠ "java/lang/invoke/VarHandle" ∧ (parseMethodDescriptor yX2_isOver.desc).map (fun d => d.parameters.length) = some 0 := by decide +kernel
theorem yv_X2_winner : yX2_winner.cls = RX2 ∧ yX2_winner.cls ≠ "java/lang/invoke/MethodHandle" ∧ yX2_winner.cls ≠ "java/lang/invoke/VarHandle" ∧ (parseMethodDescriptor yX2_winner.desc).map (fun d => d.parameters.length) = some 0 := by decide +kernel
theorem yv_X2_mostOf : yX2_mostOf.cls = RX2 ∧ yX2_mostOf.cls ≠ "java/lang/invoke/MethodHandle" ∧ yX2_mostOf.cls ≠ "java/lang/invoke/VarHandle" ∧ (parseMethodDescriptor yX2_mostOf.desc).map (fun d => d.parameters.length) = some 1 := by decide +kernel
theorem yv_X2_sideOf : yX2_sideOf.cls = RX2 ∧ yX2_sideOf.cls ≠ "java/lang/invoke/MethodHandle" ∧ yX2_sideOf.cls ≠ "java/lang/invoke/VarHandle" ∧ (parseMethodDescriptor yX2_sideOf.desc).map (fun d => d.parameters.length) = some 1 := by decide +kernel
theorem yv_X2_playRound : yX2_playRound.cls = RX2 ∧ yX2_playRound.cls ≠ "java/lang/invoke/MethodHandle" ∧ yX2_playRound.cls ≠ "java/lang/invoke/VarHandle" ∧ (parseMethodDescriptor yX2_playRound.desc).map (fun d => d.parameters.length) = some 2 := by decide +kernel
theorem yv_X2_takerOf : yX2_takerOf.cls = RX2 ∧ yX2_takerOf.cls ≠ "java/lang/invoke/MethodHandle" ∧ yX2_takerOf.cls ≠ "java/lang/invoke/VarHandle" ∧ (parseMethodDescriptor yX2_takerOf.desc).map (fun d => d.parameters.length) = some 2 := by decide +kernel
theorem yv_X2_gainOf : yX2_gainOf.cls = RX2 ∧ yX2_gainOf.cls ≠ "java/lang/invoke/MethodHandle" ∧ yX2_gainOf.cls ≠ "java/lang/invoke/VarHandle" ∧ (parseMethodDescriptor yX2_gainOf.desc).map (fun d => d.parameters.length) = some 1 := by decide +kernel
theorem yv_X9_play : yX9_play.cls = RX9 ∧ yX9_play.cls ≠ "java/lang/invoke/MethodHandle" ∧ yX9_play.cls ≠ "java/lang/invoke/VarHandle" ∧ (parseMethodDescriptor yX9_play.desc).map (fun d => d.parameters.length) = some 0 := by decide +kernel
theorem yv_X9_timesNow : yX9_timesNow.cls = RX9 ∧ yX9_timesNow.cls ≠ "java/lang/invoke/MethodHandle" ∧ yX9_timesNow.cls ≠ "java/lang/invoke/VarHandle" ∧ (parseMethodDescriptor yX9_timesNow.desc).map (fun d => d.parameters.length) = some 0 := by decide +kernel
theorem yv_X4_tableFor : yX4_tableFor.cls = RX4 ∧ yX4_tableFor.cls ≠ "java/lang/invoke/MethodHandle" ∧ yX4_tableFor.cls ≠ "java/lang/invoke/VarHandle" ∧ (parseMethodDescriptor yX4_tableFor.desc).map (fun d => d.parameters.length) = some 2 := by decide +kernel
theorem yv_X8_init : yX8_init.name = "<init>" ∧ yX8_init.cls ≠ "java/lang/invoke/MethodHandle" ∧ yX8_init.cls ≠ "java/lang/invoke/VarHandle" ∧ (parseMethodDescriptor yX8_init.desc).map (fun d => d.parameters.length) = some 4 := by decide +kernel
theorem yv_X8_learnAll : yX8_learnAll.cls = RX8 ∧ yX8_learnAll.cls ≠ "java/lang/invoke/MethodHandle" ∧ yX8_learnAll.cls ≠ "java/lang/invoke/VarHandle" ∧ (parseMethodDescriptor yX8_learnAll.desc).map (fun d => d.parameters.length) = some 0 := by decide +kernel
theorem yv_X8_learnRounds : yX8_learnRounds.cls = RX8 ∧ yX8_learnRounds.cls ≠ "java/lang/invoke/MethodHandle" ∧ yX8_learnRounds.cls ≠ "java/lang/invoke/VarHandle" ∧ (parseMethodDescriptor yX8_learnRounds.desc).map (fun d => d.parameters.length) = some 1 := by decide +kernel
theorem yv_X8_bidForces : yX8_bidForces.cls = RX8 ∧ yX8_bidForces.cls ≠ "java/lang/invoke/MethodHandle" ∧ yX8_bidForces.cls ≠ "java/lang/invoke/VarHandle" ∧ (parseMethodDescriptor yX8_bidForces.desc).map (fun d => d.parameters.length) = some 4 := by decide +kernel
theorem yv_X8_lost : yX8_lost.cls = RX8 ∧ yX8_lost.cls ≠ "java/lang/invoke/MethodHandle" ∧ yX8_lost.cls ≠ "java/lang/invoke/VarHandle" ∧ (parseMethodDescriptor yX8_lost.desc).map (fun d => d.parameters.length) = some 6 := by decide +kernel
theorem yv_X8_timeAt : yX8_timeAt.cls = RX8 ∧ yX8_timeAt.cls ≠ "java/lang/invoke/MethodHandle" ∧ yX8_timeAt.cls ≠ "java/lang/invoke/VarHandle" ∧ (parseMethodDescriptor yX8_timeAt.desc).map (fun d => d.parameters.length) = some 4 := by decide +kernel
theorem yv_X8_neverTakes : yX8_neverTakes.cls = RX8 ∧ yX8_neverTakes.cls ≠ "java/lang/invoke/MethodHandle" ∧ yX8_neverTakes.cls ≠ "java/lang/invoke/VarHandle" ∧ (parseMethodDescriptor yX8_neverTakes.desc).map (fun d => d.parameters.length) = some 1 := by decide +kernel
theorem yv_X8_taken : yX8_taken.cls = RX8 ∧ yX8_taken.cls ≠ "java/lang/invoke/MethodHandle" ∧ yX8_taken.cls ≠ "java/lang/invoke/VarHandle" ∧ (parseMethodDescriptor yX8_taken.desc).map (fun d => d.parameters.length) = some 6 := by decide +kernel
theorem yv_X8_answerForces : yX8_answerForces.cls = RX8 ∧ yX8_answerForces.cls ≠ "java/lang/invoke/MethodHandle" ∧ yX8_answerForces.cls ≠ "java/lang/invoke/VarHandle" ∧ (parseMethodDescriptor yX8_answerForces.desc).map (fun d => d.parameters.length) = some 4 := by decide +kernel
theorem yv_X0_findBid : yX0_findBid.cls = RX0 ∧ yX0_findBid.cls ≠ "java/lang/invoke/MethodHandle" ∧ yX0_findBid.cls ≠ "java/lang/invoke/VarHandle" ∧ (parseMethodDescriptor yX0_findBid.desc).map (fun d => d.parameters.length) = some 1 := by decide +kernel
theorem yv_X0_longestOwn : yX0_longestOwn.cls = RX0 ∧ yX0_longestOwn.cls ≠ "java/lang/invoke/MethodHandle" ∧ yX0_longestOwn.cls ≠ "java/lang/invoke/VarHandle" ∧ (parseMethodDescriptor yX0_longestOwn.desc).map (fun d => d.parameters.length) = some 2 := by decide +kernel
theorem yv_X0_timeBehind : yX0_timeBehind.cls = RX0 ∧ yX0_timeBehind.cls ≠ "java/lang/invoke/MethodHandle" ∧ yX0_timeBehind.cls ≠ "java/lang/invoke/VarHandle" ∧ (parseMethodDescriptor yX0_timeBehind.desc).map (fun d => d.parameters.length) = some 4 := by decide +kernel
theorem yv_X2_toWin : yX2_toWin.cls = RX2 ∧ yX2_toWin.cls ≠ "java/lang/invoke/MethodHandle" ∧ yX2_toWin.cls ≠ "java/lang/invoke/VarHandle" ∧ (parseMethodDescriptor yX2_toWin.desc).map (fun d => d.parameters.length) = some 1 := by decide +kernel
theorem yv_X0_findDelay : yX0_findDelay.cls = RX0 ∧ yX0_findDelay.cls ≠ "java/lang/invoke/MethodHandle" ∧ yX0_findDelay.cls ≠ "java/lang/invoke/VarHandle" ∧ (parseMethodDescriptor yX0_findDelay.desc).map (fun d => d.parameters.length) = some 1 := by decide +kernel
theorem yv_X0_leastOther : yX0_leastOther.cls = RX0 ∧ yX0_leastOther.cls ≠ "java/lang/invoke/MethodHandle" ∧ yX0_leastOther.cls ≠ "java/lang/invoke/VarHandle" ∧ (parseMethodDescriptor yX0_leastOther.desc).map (fun d => d.parameters.length) = some 2 := by decide +kernel
theorem yv_X0_findAnswer : yX0_findAnswer.cls = RX0 ∧ yX0_findAnswer.cls ≠ "java/lang/invoke/MethodHandle" ∧ yX0_findAnswer.cls ≠ "java/lang/invoke/VarHandle" ∧ (parseMethodDescriptor yX0_findAnswer.desc).map (fun d => d.parameters.length) = some 2 := by decide +kernel
theorem yv_X9_run : yX9_run.cls = RX9 ∧ yX9_run.cls ≠ "java/lang/invoke/MethodHandle" ∧ yX9_run.cls ≠ "java/lang/invoke/VarHandle" ∧ (parseMethodDescriptor yX9_run.desc).map (fun d => d.parameters.length) = some 0 := by decide +kernel
theorem yv_X5_firstFault : yX5_firstFault.cls = RX5 ∧ yX5_firstFault.cls ≠ "java/lang/invoke/MethodHandle" ∧ yX5_firstFault.cls ≠ "java/lang/invoke/VarHandle" ∧ (parseMethodDescriptor yX5_firstFault.desc).map (fun d => d.parameters.length) = some 0 := by decide +kernel
theorem yv_X5_signAt : yX5_signAt.cls = RX5 ∧ yX5_signAt.cls ≠ "java/lang/invoke/MethodHandle" ∧ yX5_signAt.cls ≠ "java/lang/invoke/VarHandle" ∧ (parseMethodDescriptor yX5_signAt.desc).map (fun d => d.parameters.length) = some 1 := by decide +kernel
theorem yv_X5_canStandAsDigit : yX5_canStandAsDigit.cls = RX5 ∧ yX5_canStandAsDigit.cls ≠ "java/lang/invoke/MethodHandle" ∧ yX5_canStandAsDigit.cls ≠ "java/lang/invoke/VarHandle" ∧ (parseMethodDescriptor yX5_canStandAsDigit.desc).map (fun d => d.parameters.length) = some 2 := by decide +kernel
theorem yv_X9_playPad : yX9_playPad.cls = RX9 ∧ yX9_playPad.cls ≠ "java/lang/invoke/MethodHandle" ∧ yX9_playPad.cls ≠ "java/lang/invoke/VarHandle" ∧ (parseMethodDescriptor yX9_playPad.desc).map (fun d => d.parameters.length) = some 0 := by decide +kernel
theorem yv_X5_clear : yX5_clear.cls = RX5 ∧ yX5_clear.cls ≠ "java/lang/invoke/MethodHandle" ∧ yX5_clear.cls ≠ "java/lang/invoke/VarHandle" ∧ (parseMethodDescriptor yX5_clear.desc).map (fun d => d.parameters.length) = some 0 := by decide +kernel
theorem yv_X9_player : yX9_player.cls = RX9 ∧ yX9_player.cls ≠ "java/lang/invoke/MethodHandle" ∧ yX9_player.cls ≠ "java/lang/invoke/VarHandle" ∧ (parseMethodDescriptor yX9_player.desc).map (fun d => d.parameters.length) = some 2 := by decide +kernel
theorem yv_X9_isPlayer : yX9_isPlayer.cls = RX9 ∧ yX9_isPlayer.cls ≠ "java/lang/invoke/MethodHandle" ∧ yX9_isPlayer.cls ≠ "java/lang/invoke/VarHandle" ∧ (parseMethodDescriptor yX9_isPlayer.desc).map (fun d => d.parameters.length) = some 1 := by decide +kernel
theorem yv_X9_timeWith : yX9_timeWith.cls = RX9 ∧ yX9_timeWith.cls ≠ "java/lang/invoke/MethodHandle" ∧ yX9_timeWith.cls ≠ "java/lang/invoke/VarHandle" ∧ (parseMethodDescriptor yX9_timeWith.desc).map (fun d => d.parameters.length) = some 2 := by decide +kernel
theorem yv_X9_count : yX9_count.cls = RX9 ∧ yX9_count.cls ≠ "java/lang/invoke/MethodHandle" ∧ yX9_count.cls ≠ "java/lang/invoke/VarHandle" ∧ (parseMethodDescriptor yX9_count.desc).map (fun d => d.parameters.length) = some 1 := by decide +kernel
theorem yv_X9_forced : yX9_forced.cls = RX9 ∧ yX9_forced.cls ≠ "java/lang/invoke/MethodHandle" ∧ yX9_forced.cls ≠ "java/lang/invoke/VarHandle" ∧ (parseMethodDescriptor yX9_forced.desc).map (fun d => d.parameters.length) = some 2 := by decide +kernel
theorem yv_X9_ahead : yX9_ahead.cls = RX9 ∧ yX9_ahead.cls ≠ "java/lang/invoke/MethodHandle" ∧ yX9_ahead.cls ≠ "java/lang/invoke/VarHandle" ∧ (parseMethodDescriptor yX9_ahead.desc).map (fun d => d.parameters.length) = some 2 := by decide +kernel
theorem yv_X1_seesWinOf : yX1_seesWinOf.cls = RX1 ∧ yX1_seesWinOf.cls ≠ "java/lang/invoke/MethodHandle" ∧ yX1_seesWinOf.cls ≠ "java/lang/invoke/VarHandle" ∧ (parseMethodDescriptor yX1_seesWinOf.desc).map (fun d => d.parameters.length) = some 2 := by decide +kernel
theorem yv_X1_seesWin : yX1_seesWin.cls = RX1 ∧ yX1_seesWin.cls ≠ "java/lang/invoke/MethodHandle" ∧ yX1_seesWin.cls ≠ "java/lang/invoke/VarHandle" ∧ (parseMethodDescriptor yX1_seesWin.desc).map (fun d => d.parameters.length) = some 5 := by decide +kernel
theorem yv_X1_seesBid : yX1_seesBid.cls = RX1 ∧ yX1_seesBid.cls ≠ "java/lang/invoke/MethodHandle" ∧ yX1_seesBid.cls ≠ "java/lang/invoke/VarHandle" ∧ (parseMethodDescriptor yX1_seesBid.desc).map (fun d => d.parameters.length) = some 4 := by decide +kernel
theorem yv_X1_standsAllAnswers : yX1_standsAllAnswers.cls = RX1 ∧ yX1_standsAllAnswers.cls ≠ "java/lang/invoke/MethodHandle" ∧ yX1_standsAllAnswers.cls ≠ "java/lang/invoke/VarHandle" ∧ (parseMethodDescriptor yX1_standsAllAnswers.desc).map (fun d => d.parameters.length) = some 5 := by decide +kernel
theorem yv_X1_canTake : yX1_canTake.cls = RX1 ∧ yX1_canTake.cls ≠ "java/lang/invoke/MethodHandle" ∧ yX1_canTake.cls ≠ "java/lang/invoke/VarHandle" ∧ (parseMethodDescriptor yX1_canTake.desc).map (fun d => d.parameters.length) = some 1 := by decide +kernel
theorem yv_X1_seesTaken : yX1_seesTaken.cls = RX1 ∧ yX1_seesTaken.cls ≠ "java/lang/invoke/MethodHandle" ∧ yX1_seesTaken.cls ≠ "java/lang/invoke/VarHandle" ∧ (parseMethodDescriptor yX1_seesTaken.desc).map (fun d => d.parameters.length) = some 6 := by decide +kernel
theorem yv_X1_leastTaking : yX1_leastTaking.cls = RX1 ∧ yX1_leastTaking.cls ≠ "java/lang/invoke/MethodHandle" ∧ yX1_leastTaking.cls ≠ "java/lang/invoke/VarHandle" ∧ (parseMethodDescriptor yX1_leastTaking.desc).map (fun d => d.parameters.length) = some 1 := by decide +kernel
theorem yv_X1_seesLost : yX1_seesLost.cls = RX1 ∧ yX1_seesLost.cls ≠ "java/lang/invoke/MethodHandle" ∧ yX1_seesLost.cls ≠ "java/lang/invoke/VarHandle" ∧ (parseMethodDescriptor yX1_seesLost.desc).map (fun d => d.parameters.length) = some 6 := by decide +kernel
theorem yv_X1_seesAnswers : yX1_seesAnswers.cls = RX1 ∧ yX1_seesAnswers.cls ≠ "java/lang/invoke/MethodHandle" ∧ yX1_seesAnswers.cls ≠ "java/lang/invoke/VarHandle" ∧ (parseMethodDescriptor yX1_seesAnswers.desc).map (fun d => d.parameters.length) = some 4 := by decide +kernel
theorem yv_X1_hasAnswer : yX1_hasAnswer.cls = RX1 ∧ yX1_hasAnswer.cls ≠ "java/lang/invoke/MethodHandle" ∧ yX1_hasAnswer.cls ≠ "java/lang/invoke/VarHandle" ∧ (parseMethodDescriptor yX1_hasAnswer.desc).map (fun d => d.parameters.length) = some 5 := by decide +kernel
theorem yv_X9_bestBid : yX9_bestBid.cls = RX9 ∧ yX9_bestBid.cls ≠ "java/lang/invoke/MethodHandle" ∧ yX9_bestBid.cls ≠ "java/lang/invoke/VarHandle" ∧ (parseMethodDescriptor yX9_bestBid.desc).map (fun d => d.parameters.length) = some 0 := by decide +kernel
theorem yv_X9_bestAnswer : yX9_bestAnswer.cls = RX9 ∧ yX9_bestAnswer.cls ≠ "java/lang/invoke/MethodHandle" ∧ yX9_bestAnswer.cls ≠ "java/lang/invoke/VarHandle" ∧ (parseMethodDescriptor yX9_bestAnswer.desc).map (fun d => d.parameters.length) = some 1 := by decide +kernel
theorem yv_X9_keeps : yX9_keeps.cls = RX9 ∧ yX9_keeps.cls ≠ "java/lang/invoke/MethodHandle" ∧ yX9_keeps.cls ≠ "java/lang/invoke/VarHandle" ∧ (parseMethodDescriptor yX9_keeps.desc).map (fun d => d.parameters.length) = some 0 := by decide +kernel
theorem yv_X0_countKeeping : yX0_countKeeping.cls = RX0 ∧ yX0_countKeeping.cls ≠ "java/lang/invoke/MethodHandle" ∧ yX0_countKeeping.cls ≠ "java/lang/invoke/VarHandle" ∧ (parseMethodDescriptor yX0_countKeeping.desc).map (fun d => d.parameters.length) = some 1 := by decide +kernel
theorem yv_X9_leastHours : yX9_leastHours.cls = RX9 ∧ yX9_leastHours.cls ≠ "java/lang/invoke/MethodHandle" ∧ yX9_leastHours.cls ≠ "java/lang/invoke/VarHandle" ∧ (parseMethodDescriptor yX9_leastHours.desc).map (fun d => d.parameters.length) = some 1 := by decide +kernel
theorem yv_X9_put : yX9_put.cls = RX9 ∧ yX9_put.cls ≠ "java/lang/invoke/MethodHandle" ∧ yX9_put.cls ≠ "java/lang/invoke/VarHandle" ∧ (parseMethodDescriptor yX9_put.desc).map (fun d => d.parameters.length) = some 1 := by decide +kernel
theorem yv_X5_countSigns : yX5_countSigns.cls = RX5 ∧ yX5_countSigns.cls ≠ "java/lang/invoke/MethodHandle" ∧ yX5_countSigns.cls ≠ "java/lang/invoke/VarHandle" ∧ (parseMethodDescriptor yX5_countSigns.desc).map (fun d => d.parameters.length) = some 1 := by decide +kernel
theorem yv_X5_append : yX5_append.cls = RX5 ∧ yX5_append.cls ≠ "java/lang/invoke/MethodHandle" ∧ yX5_append.cls ≠ "java/lang/invoke/VarHandle" ∧ (parseMethodDescriptor yX5_append.desc).map (fun d => d.parameters.length) = some 2 := by decide +kernel
theorem yv_X9_wipe : yX9_wipe.cls = RX9 ∧ yX9_wipe.cls ≠ "java/lang/invoke/MethodHandle" ∧ yX9_wipe.cls ≠ "java/lang/invoke/VarHandle" ∧ (parseMethodDescriptor yX9_wipe.desc).map (fun d => d.parameters.length) = some 0 := by decide +kernel
theorem yv_X9_fault : yX9_fault.cls = RX9 ∧ yX9_fault.cls ≠ "java/lang/invoke/MethodHandle" ∧ yX9_fault.cls ≠ "java/lang/invoke/VarHandle" ∧ (parseMethodDescriptor yX9_fault.desc).map (fun d => d.parameters.length) = some 0 := by decide +kernel
theorem yv_X9_undo : yX9_undo.cls = RX9 ∧ yX9_undo.cls ≠ "java/lang/invoke/MethodHandle" ∧ yX9_undo.cls ≠ "java/lang/invoke/VarHandle" ∧ (parseMethodDescriptor yX9_undo.desc).map (fun d => d.parameters.length) = some 0 := by decide +kernel
theorem yv_X3_takeBack : yX3_takeBack.cls = RX3 ∧ yX3_takeBack.cls ≠ "java/lang/invoke/MethodHandle" ∧ yX3_takeBack.cls ≠ "java/lang/invoke/VarHandle" ∧ (parseMethodDescriptor yX3_takeBack.desc).map (fun d => d.parameters.length) = some 1 := by decide +kernel
theorem yv_X9_save : yX9_save.cls = RX9 ∧ yX9_save.cls ≠ "java/lang/invoke/MethodHandle" ∧ yX9_save.cls ≠ "java/lang/invoke/VarHandle" ∧ (parseMethodDescriptor yX9_save.desc).map (fun d => d.parameters.length) = some 1 := by decide +kernel
theorem yv_X9_isSlot : yX9_isSlot.cls = RX9 ∧ yX9_isSlot.cls ≠ "java/lang/invoke/MethodHandle" ∧ yX9_isSlot.cls ≠ "java/lang/invoke/VarHandle" ∧ (parseMethodDescriptor yX9_isSlot.desc).map (fun d => d.parameters.length) = some 1 := by decide +kernel
theorem yv_X9_slotOf : yX9_slotOf.cls = RX9 ∧ yX9_slotOf.cls ≠ "java/lang/invoke/MethodHandle" ∧ yX9_slotOf.cls ≠ "java/lang/invoke/VarHandle" ∧ (parseMethodDescriptor yX9_slotOf.desc).map (fun d => d.parameters.length) = some 1 := by decide +kernel
theorem yv_X9_restore : yX9_restore.cls = RX9 ∧ yX9_restore.cls ≠ "java/lang/invoke/MethodHandle" ∧ yX9_restore.cls ≠ "java/lang/invoke/VarHandle" ∧ (parseMethodDescriptor yX9_restore.desc).map (fun d => d.parameters.length) = some 1 := by decide +kernel
theorem yv_X10_init : yX10_init.name = "<init>" ∧ yX10_init.cls ≠ "java/lang/invoke/MethodHandle" ∧ yX10_init.cls ≠ "java/lang/invoke/VarHandle" ∧ (parseMethodDescriptor yX10_init.desc).map (fun d => d.parameters.length) = some 0 := by decide +kernel
theorem yv_X10_newGame : yX10_newGame.cls = RX10 ∧ yX10_newGame.cls ≠ "java/lang/invoke/MethodHandle" ∧ yX10_newGame.cls ≠ "java/lang/invoke/VarHandle" ∧ (parseMethodDescriptor yX10_newGame.desc).map (fun d => d.parameters.length) = some 0 := by decide +kernel
theorem yv_X10_set : yX10_set.cls = RX10 ∧ yX10_set.cls ≠ "java/lang/invoke/MethodHandle" ∧ yX10_set.cls ≠ "java/lang/invoke/VarHandle" ∧ (parseMethodDescriptor yX10_set.desc).map (fun d => d.parameters.length) = some 2 := by decide +kernel
theorem yv_X10_isSetting : yX10_isSetting.cls = RX10 ∧ yX10_isSetting.cls ≠ "java/lang/invoke/MethodHandle" ∧ yX10_isSetting.cls ≠ "java/lang/invoke/VarHandle" ∧ (parseMethodDescriptor yX10_isSetting.desc).map (fun d => d.parameters.length) = some 2 := by decide +kernel
theorem yv_X10_in : yX10_in.cls = RX10 ∧ yX10_in.cls ≠ "java/lang/invoke/MethodHandle" ∧ yX10_in.cls ≠ "java/lang/invoke/VarHandle" ∧ (parseMethodDescriptor yX10_in.desc).map (fun d => d.parameters.length) = some 3 := by decide +kernel
theorem yv_X10_changes : yX10_changes.cls = RX10 ∧ yX10_changes.cls ≠ "java/lang/invoke/MethodHandle" ∧ yX10_changes.cls ≠ "java/lang/invoke/VarHandle" ∧ (parseMethodDescriptor yX10_changes.desc).map (fun d => d.parameters.length) = some 0 := by decide +kernel
theorem yv_X10_begin : yX10_begin.cls = RX10 ∧ yX10_begin.cls ≠ "java/lang/invoke/MethodHandle" ∧ yX10_begin.cls ≠ "java/lang/invoke/VarHandle" ∧ (parseMethodDescriptor yX10_begin.desc).map (fun d => d.parameters.length) = some 2 := by decide +kernel
theorem yv_X10_round : yX10_round.cls = RX10 ∧ yX10_round.cls ≠ "java/lang/invoke/MethodHandle" ∧ yX10_round.cls ≠ "java/lang/invoke/VarHandle" ∧ (parseMethodDescriptor yX10_round.desc).map (fun d => d.parameters.length) = some 2 := by decide +kernel
theorem yv_X10_canPlay : yX10_canPlay.cls = RX10 ∧ yX10_canPlay.cls ≠ "java/lang/invoke/MethodHandle" ∧ yX10_canPlay.cls ≠ "java/lang/invoke/VarHandle" ∧ (parseMethodDescriptor yX10_canPlay.desc).map (fun d => d.parameters.length) = some 2 := by decide +kernel
theorem yv_X10_isOver : yX10_isOver.cls = RX10 ∧ yX10_isOver.cls ≠ "java/lang/invoke/MethodHandle" ∧ yX10_isOver.cls ≠ "java/lang/invoke/VarHandle" ∧ (parseMethodDescriptor yX10_isOver.desc).map (fun d => d.parameters.length) = some 0 := by decide +kernel
theorem yv_X10_winnerAt : yX10_winnerAt.cls = RX10 ∧ yX10_winnerAt.cls ≠ "java/lang/invoke/MethodHandle" ∧ yX10_winnerAt.cls ≠ "java/lang/invoke/VarHandle" ∧ (parseMethodDescriptor yX10_winnerAt.desc).map (fun d => d.parameters.length) = some 1 := by decide +kernel
theorem yv_X10_most : yX10_most.cls = RX10 ∧ yX10_most.cls ≠ "java/lang/invoke/MethodHandle" ∧ yX10_most.cls ≠ "java/lang/invoke/VarHandle" ∧ (parseMethodDescriptor yX10_most.desc).map (fun d => d.parameters.length) = some 1 := by decide +kernel
theorem yv_X10_plays : yX10_plays.cls = RX10 ∧ yX10_plays.cls ≠ "java/lang/invoke/MethodHandle" ∧ yX10_plays.cls ≠ "java/lang/invoke/VarHandle" ∧ (parseMethodDescriptor yX10_plays.desc).map (fun d => d.parameters.length) = some 2 := by decide +kernel
theorem yv_X10_taker : yX10_taker.cls = RX10 ∧ yX10_taker.cls ≠ "java/lang/invoke/MethodHandle" ∧ yX10_taker.cls ≠ "java/lang/invoke/VarHandle" ∧ (parseMethodDescriptor yX10_taker.desc).map (fun d => d.parameters.length) = some 3 := by decide +kernel
theorem yv_X10_play : yX10_play.cls = RX10 ∧ yX10_play.cls ≠ "java/lang/invoke/MethodHandle" ∧ yX10_play.cls ≠ "java/lang/invoke/VarHandle" ∧ (parseMethodDescriptor yX10_play.desc).map (fun d => d.parameters.length) = some 0 := by decide +kernel
theorem yv_X10_bestBid : yX10_bestBid.cls = RX10 ∧ yX10_bestBid.cls ≠ "java/lang/invoke/MethodHandle" ∧ yX10_bestBid.cls ≠ "java/lang/invoke/VarHandle" ∧ (parseMethodDescriptor yX10_bestBid.desc).map (fun d => d.parameters.length) = some 0 := by decide +kernel
theorem yv_X10_knows : yX10_knows.cls = RX10 ∧ yX10_knows.cls ≠ "java/lang/invoke/MethodHandle" ∧ yX10_knows.cls ≠ "java/lang/invoke/VarHandle" ∧ (parseMethodDescriptor yX10_knows.desc).map (fun d => d.parameters.length) = some 1 := by decide +kernel
theorem yv_X10_worksOutAll : yX10_worksOutAll.cls = RX10 ∧ yX10_worksOutAll.cls ≠ "java/lang/invoke/MethodHandle" ∧ yX10_worksOutAll.cls ≠ "java/lang/invoke/VarHandle" ∧ (parseMethodDescriptor yX10_worksOutAll.desc).map (fun d => d.parameters.length) = some 2 := by decide +kernel
theorem yv_X10_lowest : yX10_lowest.cls = RX10 ∧ yX10_lowest.cls ≠ "java/lang/invoke/MethodHandle" ∧ yX10_lowest.cls ≠ "java/lang/invoke/VarHandle" ∧ (parseMethodDescriptor yX10_lowest.desc).map (fun d => d.parameters.length) = some 0 := by decide +kernel
theorem yv_X10_worksOut : yX10_worksOut.cls = RX10 ∧ yX10_worksOut.cls ≠ "java/lang/invoke/MethodHandle" ∧ yX10_worksOut.cls ≠ "java/lang/invoke/VarHandle" ∧ (parseMethodDescriptor yX10_worksOut.desc).map (fun d => d.parameters.length) = some 3 := by decide +kernel
theorem yv_X10_at : yX10_at.cls = RX10 ∧ yX10_at.cls ≠ "java/lang/invoke/MethodHandle" ∧ yX10_at.cls ≠ "java/lang/invoke/VarHandle" ∧ (parseMethodDescriptor yX10_at.desc).map (fun d => d.parameters.length) = some 5 := by decide +kernel
theorem yv_X10_canForce : yX10_canForce.cls = RX10 ∧ yX10_canForce.cls ≠ "java/lang/invoke/MethodHandle" ∧ yX10_canForce.cls ≠ "java/lang/invoke/VarHandle" ∧ (parseMethodDescriptor yX10_canForce.desc).map (fun d => d.parameters.length) = some 6 := by decide +kernel
theorem yv_X10_behind : yX10_behind.cls = RX10 ∧ yX10_behind.cls ≠ "java/lang/invoke/MethodHandle" ∧ yX10_behind.cls ≠ "java/lang/invoke/VarHandle" ∧ (parseMethodDescriptor yX10_behind.desc).map (fun d => d.parameters.length) = some 7 := by decide +kernel
theorem yv_X10_worstBehind : yX10_worstBehind.cls = RX10 ∧ yX10_worstBehind.cls ≠ "java/lang/invoke/MethodHandle" ∧ yX10_worstBehind.cls ≠ "java/lang/invoke/VarHandle" ∧ (parseMethodDescriptor yX10_worstBehind.desc).map (fun d => d.parameters.length) = some 1 := by decide +kernel
theorem yv_X10_timeBehind : yX10_timeBehind.cls = RX10 ∧ yX10_timeBehind.cls ≠ "java/lang/invoke/MethodHandle" ∧ yX10_timeBehind.cls ≠ "java/lang/invoke/VarHandle" ∧ (parseMethodDescriptor yX10_timeBehind.desc).map (fun d => d.parameters.length) = some 3 := by decide +kernel
theorem yv_X10_othersBehind : yX10_othersBehind.cls = RX10 ∧ yX10_othersBehind.cls ≠ "java/lang/invoke/MethodHandle" ∧ yX10_othersBehind.cls ≠ "java/lang/invoke/VarHandle" ∧ (parseMethodDescriptor yX10_othersBehind.desc).map (fun d => d.parameters.length) = some 1 := by decide +kernel
theorem yv_X10_answerTo : yX10_answerTo.cls = RX10 ∧ yX10_answerTo.cls ≠ "java/lang/invoke/MethodHandle" ∧ yX10_answerTo.cls ≠ "java/lang/invoke/VarHandle" ∧ (parseMethodDescriptor yX10_answerTo.desc).map (fun d => d.parameters.length) = some 1 := by decide +kernel
theorem yv_X10_player : yX10_player.cls = RX10 ∧ yX10_player.cls ≠ "java/lang/invoke/MethodHandle" ∧ yX10_player.cls ≠ "java/lang/invoke/VarHandle" ∧ (parseMethodDescriptor yX10_player.desc).map (fun d => d.parameters.length) = some 2 := by decide +kernel
theorem yv_X10_isPlayer : yX10_isPlayer.cls = RX10 ∧ yX10_isPlayer.cls ≠ "java/lang/invoke/MethodHandle" ∧ yX10_isPlayer.cls ≠ "java/lang/invoke/VarHandle" ∧ (parseMethodDescriptor yX10_isPlayer.desc).map (fun d => d.parameters.length) = some 1 := by decide +kernel
theorem yv_X10_timeOf : yX10_timeOf.cls = RX10 ∧ yX10_timeOf.cls ≠ "java/lang/invoke/MethodHandle" ∧ yX10_timeOf.cls ≠ "java/lang/invoke/VarHandle" ∧ (parseMethodDescriptor yX10_timeOf.desc).map (fun d => d.parameters.length) = some 1 := by decide +kernel
theorem yv_X10_timeWith : yX10_timeWith.cls = RX10 ∧ yX10_timeWith.cls ≠ "java/lang/invoke/MethodHandle" ∧ yX10_timeWith.cls ≠ "java/lang/invoke/VarHandle" ∧ (parseMethodDescriptor yX10_timeWith.desc).map (fun d => d.parameters.length) = some 3 := by decide +kernel
theorem yv_X10_count : yX10_count.cls = RX10 ∧ yX10_count.cls ≠ "java/lang/invoke/MethodHandle" ∧ yX10_count.cls ≠ "java/lang/invoke/VarHandle" ∧ (parseMethodDescriptor yX10_count.desc).map (fun d => d.parameters.length) = some 1 := by decide +kernel
theorem yv_X10_forced : yX10_forced.cls = RX10 ∧ yX10_forced.cls ≠ "java/lang/invoke/MethodHandle" ∧ yX10_forced.cls ≠ "java/lang/invoke/VarHandle" ∧ (parseMethodDescriptor yX10_forced.desc).map (fun d => d.parameters.length) = some 2 := by decide +kernel
theorem yv_X10_ahead : yX10_ahead.cls = RX10 ∧ yX10_ahead.cls ≠ "java/lang/invoke/MethodHandle" ∧ yX10_ahead.cls ≠ "java/lang/invoke/VarHandle" ∧ (parseMethodDescriptor yX10_ahead.desc).map (fun d => d.parameters.length) = some 2 := by decide +kernel
theorem yv_X10_bestAnswer : yX10_bestAnswer.cls = RX10 ∧ yX10_bestAnswer.cls ≠ "java/lang/invoke/MethodHandle" ∧ yX10_bestAnswer.cls ≠ "java/lang/invoke/VarHandle" ∧ (parseMethodDescriptor yX10_bestAnswer.desc).map (fun d => d.parameters.length) = some 1 := by decide +kernel
theorem yv_X10_keeps : yX10_keeps.cls = RX10 ∧ yX10_keeps.cls ≠ "java/lang/invoke/MethodHandle" ∧ yX10_keeps.cls ≠ "java/lang/invoke/VarHandle" ∧ (parseMethodDescriptor yX10_keeps.desc).map (fun d => d.parameters.length) = some 0 := by decide +kernel
theorem yv_X10_leastHours : yX10_leastHours.cls = RX10 ∧ yX10_leastHours.cls ≠ "java/lang/invoke/MethodHandle" ∧ yX10_leastHours.cls ≠ "java/lang/invoke/VarHandle" ∧ (parseMethodDescriptor yX10_leastHours.desc).map (fun d => d.parameters.length) = some 1 := by decide +kernel
theorem yv_X10_put : yX10_put.cls = RX10 ∧ yX10_put.cls ≠ "java/lang/invoke/MethodHandle" ∧ yX10_put.cls ≠ "java/lang/invoke/VarHandle" ∧ (parseMethodDescriptor yX10_put.desc).map (fun d => d.parameters.length) = some 1 := by decide +kernel
theorem yv_X10_charactersOf : yX10_charactersOf.cls = RX10 ∧ yX10_charactersOf.cls ≠ "java/lang/invoke/MethodHandle" ∧ yX10_charactersOf.cls ≠ "java/lang/invoke/VarHandle" ∧ (parseMethodDescriptor yX10_charactersOf.desc).map (fun d => d.parameters.length) = some 1 := by decide +kernel
theorem yv_X10_wipe : yX10_wipe.cls = RX10 ∧ yX10_wipe.cls ≠ "java/lang/invoke/MethodHandle" ∧ yX10_wipe.cls ≠ "java/lang/invoke/VarHandle" ∧ (parseMethodDescriptor yX10_wipe.desc).map (fun d => d.parameters.length) = some 0 := by decide +kernel
theorem yv_X10_fault : yX10_fault.cls = RX10 ∧ yX10_fault.cls ≠ "java/lang/invoke/MethodHandle" ∧ yX10_fault.cls ≠ "java/lang/invoke/VarHandle" ∧ (parseMethodDescriptor yX10_fault.desc).map (fun d => d.parameters.length) = some 0 := by decide +kernel
theorem yv_X10_readsRound : yX10_readsRound.cls = RX10 ∧ yX10_readsRound.cls ≠ "java/lang/invoke/MethodHandle" ∧ yX10_readsRound.cls ≠ "java/lang/invoke/VarHandle" ∧ (parseMethodDescriptor yX10_readsRound.desc).map (fun d => d.parameters.length) = some 0 := by decide +kernel
theorem yv_X10_readsBid : yX10_readsBid.cls = RX10 ∧ yX10_readsBid.cls ≠ "java/lang/invoke/MethodHandle" ∧ yX10_readsBid.cls ≠ "java/lang/invoke/VarHandle" ∧ (parseMethodDescriptor yX10_readsBid.desc).map (fun d => d.parameters.length) = some 0 := by decide +kernel
theorem yv_X10_isHere : yX10_isHere.cls = RX10 ∧ yX10_isHere.cls ≠ "java/lang/invoke/MethodHandle" ∧ yX10_isHere.cls ≠ "java/lang/invoke/VarHandle" ∧ (parseMethodDescriptor yX10_isHere.desc).map (fun d => d.parameters.length) = some 2 := by decide +kernel
theorem yv_X10_takesOne : yX10_takesOne.cls = RX10 ∧ yX10_takesOne.cls ≠ "java/lang/invoke/MethodHandle" ∧ yX10_takesOne.cls ≠ "java/lang/invoke/VarHandle" ∧ (parseMethodDescriptor yX10_takesOne.desc).map (fun d => d.parameters.length) = some 1 := by decide +kernel
theorem yv_X10_run : yX10_run.cls = RX10 ∧ yX10_run.cls ≠ "java/lang/invoke/MethodHandle" ∧ yX10_run.cls ≠ "java/lang/invoke/VarHandle" ∧ (parseMethodDescriptor yX10_run.desc).map (fun d => d.parameters.length) = some 0 := by decide +kernel
theorem yv_X10_undo : yX10_undo.cls = RX10 ∧ yX10_undo.cls ≠ "java/lang/invoke/MethodHandle" ∧ yX10_undo.cls ≠ "java/lang/invoke/VarHandle" ∧ (parseMethodDescriptor yX10_undo.desc).map (fun d => d.parameters.length) = some 0 := by decide +kernel
theorem yv_X10_save : yX10_save.cls = RX10 ∧ yX10_save.cls ≠ "java/lang/invoke/MethodHandle" ∧ yX10_save.cls ≠ "java/lang/invoke/VarHandle" ∧ (parseMethodDescriptor yX10_save.desc).map (fun d => d.parameters.length) = some 1 := by decide +kernel
theorem yv_X10_restore : yX10_restore.cls = RX10 ∧ yX10_restore.cls ≠ "java/lang/invoke/MethodHandle" ∧ yX10_restore.cls ≠ "java/lang/invoke/VarHandle" ∧ (parseMethodDescriptor yX10_restore.desc).map (fun d => d.parameters.length) = some 1 := by decide +kernel
end
section
theorem dX0_init_0 : decode cX0_init 0 = .ok (.aload_n 0, 1) := by decide +kernel
theorem dX0_init_1 : decode cX0_init 1 = .ok (.invokespecial 3, 3) := by decide +kernel
theorem dX0_init_4 : decode cX0_init 4 = .ok (.aload_n 0, 1) := by decide +kernel
theorem dX0_init_5 : decode cX0_init 5 = .ok (.aload_n 1, 1) := by decide +kernel
theorem dX0_init_6 : decode cX0_init 6 = .ok (.putfield 9, 3) := by decide +kernel
theorem dX0_init_9 : decode cX0_init 9 = .ok (.return_, 1) := by decide +kernel
theorem dX0_findBid_0 : decode cX0_findBid 0 = .ok (.iconst 0, 1) := by decide +kernel
theorem dX0_findBid_1 : decode cX0_findBid 1 = .ok (.istore_n 2, 1) := by decide +kernel
theorem dX0_findBid_2 : decode cX0_findBid 2 = .ok (.bipush 9, 2) := by decide +kernel
theorem dX0_findBid_4 : decode cX0_findBid 4 = .ok (.istore_n 3, 1) := by decide +kernel
theorem dX0_findBid_5 : decode cX0_findBid 5 = .ok (.aload_n 0, 1) := by decide +kernel
theorem dX0_findBid_6 : decode cX0_findBid 6 = .ok (.getfield 9, 3) := by decide +kernel
theorem dX0_findBid_9 : decode cX0_findBid 9 = .ok (.aload_n 0, 1) := by decide +kernel
theorem dX0_findBid_10 : decode cX0_findBid 10 = .ok (.getfield 9, 3) := by decide +kernel
theorem dX0_findBid_13 : decode cX0_findBid 13 = .ok (.getfield 15, 3) := by decide +kernel
theorem dX0_findBid_16 : decode cX0_findBid 16 = .ok (.invokevirtual 21, 3) := by decide +kernel
theorem dX0_findBid_19 : decode cX0_findBid 19 = .ok (.istore 4, 2) := by decide +kernel
theorem dX0_findBid_21 : decode cX0_findBid 21 = .ok (.iconst 0, 1) := by decide +kernel
theorem dX0_findBid_22 : decode cX0_findBid 22 = .ok (.istore 5, 2) := by decide +kernel
theorem dX0_findBid_24 : decode cX0_findBid 24 = .ok (.iload 5, 2) := by decide +kernel
theorem dX0_findBid_26 : decode cX0_findBid 26 = .ok (.iload 4, 2) := by decide +kernel
theorem dX0_findBid_28 : decode cX0_findBid 28 = .ok (.if_icmp .gt 30, 3) := by decide +kernel
theorem dX0_findBid_31 : decode cX0_findBid 31 = .ok (.aload_n 0, 1) := by decide +kernel
theorem dX0_findBid_32 : decode cX0_findBid 32 = .ok (.aload_n 1, 1) := by decide +kernel
theorem dX0_findBid_33 : decode cX0_findBid 33 = .ok (.iload 5, 2) := by decide +kernel
theorem dX0_findBid_35 : decode cX0_findBid 35 = .ok (.invokevirtual 25, 3) := by decide +kernel
theorem dX0_findBid_38 : decode cX0_findBid 38 = .ok (.istore 6, 2) := by decide +kernel
theorem dX0_findBid_40 : decode cX0_findBid 40 = .ok (.iload 6, 2) := by decide +kernel
theorem dX0_findBid_42 : decode cX0_findBid 42 = .ok (.iload_n 3, 1) := by decide +kernel
theorem dX0_findBid_43 : decode cX0_findBid 43 = .ok (.if_icmp .ge 9, 3) := by decide +kernel
theorem dX0_findBid_46 : decode cX0_findBid 46 = .ok (.iload 5, 2) := by decide +kernel
theorem dX0_findBid_48 : decode cX0_findBid 48 = .ok (.istore_n 2, 1) := by decide +kernel
theorem dX0_findBid_49 : decode cX0_findBid 49 = .ok (.iload 6, 2) := by decide +kernel
theorem dX0_findBid_51 : decode cX0_findBid 51 = .ok (.istore_n 3, 1) := by decide +kernel
theorem dX0_findBid_52 : decode cX0_findBid 52 = .ok (.iinc 5 1, 3) := by decide +kernel
theorem dX0_findBid_55 : decode cX0_findBid 55 = .ok (.goto (-31), 3) := by decide +kernel
theorem dX0_findBid_58 : decode cX0_findBid 58 = .ok (.iload_n 3, 1) := by decide +kernel
theorem dX0_findBid_59 : decode cX0_findBid 59 = .ok (.bipush 9, 2) := by decide +kernel
theorem dX0_findBid_61 : decode cX0_findBid 61 = .ok (.if_icmp .ge 7, 3) := by decide +kernel
theorem dX0_findBid_64 : decode cX0_findBid 64 = .ok (.iload_n 2, 1) := by decide +kernel
theorem dX0_findBid_65 : decode cX0_findBid 65 = .ok (.goto 8, 3) := by decide +kernel
theorem dX0_findBid_68 : decode cX0_findBid 68 = .ok (.aload_n 0, 1) := by decide +kernel
theorem dX0_findBid_69 : decode cX0_findBid 69 = .ok (.aload_n 1, 1) := by decide +kernel
theorem dX0_findBid_70 : decode cX0_findBid 70 = .ok (.invokevirtual 29, 3) := by decide +kernel
theorem dX0_findBid_73 : decode cX0_findBid 73 = .ok (.ireturn, 1) := by decide +kernel
theorem dX0_findDelay_0 : decode cX0_findDelay 0 = .ok (.iconst 0, 1) := by decide +kernel
theorem dX0_findDelay_1 : decode cX0_findDelay 1 = .ok (.istore_n 2, 1) := by decide +kernel
theorem dX0_findDelay_2 : decode cX0_findDelay 2 = .ok (.iconst (-1), 1) := by decide +kernel
theorem dX0_findDelay_3 : decode cX0_findDelay 3 = .ok (.istore_n 3, 1) := by decide +kernel
theorem dX0_findDelay_4 : decode cX0_findDelay 4 = .ok (.aload_n 0, 1) := by decide +kernel
theorem dX0_findDelay_5 : decode cX0_findDelay 5 = .ok (.getfield 9, 3) := by decide +kernel
theorem dX0_findDelay_8 : decode cX0_findDelay 8 = .ok (.aload_n 0, 1) := by decide +kernel
theorem dX0_findDelay_9 : decode cX0_findDelay 9 = .ok (.getfield 9, 3) := by decide +kernel
theorem dX0_findDelay_12 : decode cX0_findDelay 12 = .ok (.getfield 15, 3) := by decide +kernel
theorem dX0_findDelay_15 : decode cX0_findDelay 15 = .ok (.invokevirtual 21, 3) := by decide +kernel
theorem dX0_findDelay_18 : decode cX0_findDelay 18 = .ok (.istore 4, 2) := by decide +kernel
theorem dX0_findDelay_20 : decode cX0_findDelay 20 = .ok (.iconst 0, 1) := by decide +kernel
theorem dX0_findDelay_21 : decode cX0_findDelay 21 = .ok (.istore 5, 2) := by decide +kernel
theorem dX0_findDelay_23 : decode cX0_findDelay 23 = .ok (.iload 5, 2) := by decide +kernel
theorem dX0_findDelay_25 : decode cX0_findDelay 25 = .ok (.iload 4, 2) := by decide +kernel
theorem dX0_findDelay_27 : decode cX0_findDelay 27 = .ok (.if_icmp .gt 30, 3) := by decide +kernel
theorem dX0_findDelay_30 : decode cX0_findDelay 30 = .ok (.aload_n 0, 1) := by decide +kernel
theorem dX0_findDelay_31 : decode cX0_findDelay 31 = .ok (.aload_n 1, 1) := by decide +kernel
theorem dX0_findDelay_32 : decode cX0_findDelay 32 = .ok (.iload 5, 2) := by decide +kernel
theorem dX0_findDelay_34 : decode cX0_findDelay 34 = .ok (.invokevirtual 33, 3) := by decide +kernel
theorem dX0_findDelay_37 : decode cX0_findDelay 37 = .ok (.istore 6, 2) := by decide +kernel
theorem dX0_findDelay_39 : decode cX0_findDelay 39 = .ok (.iload 6, 2) := by decide +kernel
theorem dX0_findDelay_41 : decode cX0_findDelay 41 = .ok (.iload_n 3, 1) := by decide +kernel
theorem dX0_findDelay_42 : decode cX0_findDelay 42 = .ok (.if_icmp .le 9, 3) := by decide +kernel
theorem dX0_findDelay_45 : decode cX0_findDelay 45 = .ok (.iload 5, 2) := by decide +kernel
theorem dX0_findDelay_47 : decode cX0_findDelay 47 = .ok (.istore_n 2, 1) := by decide +kernel
theorem dX0_findDelay_48 : decode cX0_findDelay 48 = .ok (.iload 6, 2) := by decide +kernel
theorem dX0_findDelay_50 : decode cX0_findDelay 50 = .ok (.istore_n 3, 1) := by decide +kernel
theorem dX0_findDelay_51 : decode cX0_findDelay 51 = .ok (.iinc 5 1, 3) := by decide +kernel
theorem dX0_findDelay_54 : decode cX0_findDelay 54 = .ok (.goto (-31), 3) := by decide +kernel
theorem dX0_findDelay_57 : decode cX0_findDelay 57 = .ok (.iload_n 2, 1) := by decide +kernel
theorem dX0_findDelay_58 : decode cX0_findDelay 58 = .ok (.ireturn, 1) := by decide +kernel
theorem dX0_findAnswer_0 : decode cX0_findAnswer 0 = .ok (.iconst 0, 1) := by decide +kernel
theorem dX0_findAnswer_1 : decode cX0_findAnswer 1 = .ok (.istore_n 3, 1) := by decide +kernel
theorem dX0_findAnswer_2 : decode cX0_findAnswer 2 = .ok (.bipush 9, 2) := by decide +kernel
theorem dX0_findAnswer_4 : decode cX0_findAnswer 4 = .ok (.istore 4, 2) := by decide +kernel
theorem dX0_findAnswer_6 : decode cX0_findAnswer 6 = .ok (.iconst 0, 1) := by decide +kernel
theorem dX0_findAnswer_7 : decode cX0_findAnswer 7 = .ok (.istore 5, 2) := by decide +kernel
theorem dX0_findAnswer_9 : decode cX0_findAnswer 9 = .ok (.iconst (-1), 1) := by decide +kernel
theorem dX0_findAnswer_10 : decode cX0_findAnswer 10 = .ok (.istore 6, 2) := by decide +kernel
theorem dX0_findAnswer_12 : decode cX0_findAnswer 12 = .ok (.aload_n 0, 1) := by decide +kernel
theorem dX0_findAnswer_13 : decode cX0_findAnswer 13 = .ok (.getfield 9, 3) := by decide +kernel
theorem dX0_findAnswer_16 : decode cX0_findAnswer 16 = .ok (.iconst 1, 1) := by decide +kernel
theorem dX0_findAnswer_17 : decode cX0_findAnswer 17 = .ok (.aload_n 0, 1) := by decide +kernel
theorem dX0_findAnswer_18 : decode cX0_findAnswer 18 = .ok (.getfield 9, 3) := by decide +kernel
theorem dX0_findAnswer_21 : decode cX0_findAnswer 21 = .ok (.getfield 15, 3) := by decide +kernel
theorem dX0_findAnswer_24 : decode cX0_findAnswer 24 = .ok (.isub, 1) := by decide +kernel
theorem dX0_findAnswer_25 : decode cX0_findAnswer 25 = .ok (.invokevirtual 21, 3) := by decide +kernel
theorem dX0_findAnswer_28 : decode cX0_findAnswer 28 = .ok (.istore 7, 2) := by decide +kernel
theorem dX0_findAnswer_30 : decode cX0_findAnswer 30 = .ok (.iconst 0, 1) := by decide +kernel
theorem dX0_findAnswer_31 : decode cX0_findAnswer 31 = .ok (.istore 8, 2) := by decide +kernel
theorem dX0_findAnswer_33 : decode cX0_findAnswer 33 = .ok (.iload 8, 2) := by decide +kernel
theorem dX0_findAnswer_35 : decode cX0_findAnswer 35 = .ok (.iload 7, 2) := by decide +kernel
theorem dX0_findAnswer_37 : decode cX0_findAnswer 37 = .ok (.if_icmp .gt 74, 3) := by decide +kernel
theorem dX0_findAnswer_40 : decode cX0_findAnswer 40 = .ok (.aload_n 0, 1) := by decide +kernel
theorem dX0_findAnswer_41 : decode cX0_findAnswer 41 = .ok (.aload_n 1, 1) := by decide +kernel
theorem dX0_findAnswer_42 : decode cX0_findAnswer 42 = .ok (.iconst 1, 1) := by decide +kernel
theorem dX0_findAnswer_43 : decode cX0_findAnswer 43 = .ok (.aload_n 0, 1) := by decide +kernel
theorem dX0_findAnswer_44 : decode cX0_findAnswer 44 = .ok (.getfield 9, 3) := by decide +kernel
theorem dX0_findAnswer_47 : decode cX0_findAnswer 47 = .ok (.getfield 15, 3) := by decide +kernel
theorem dX0_findAnswer_50 : decode cX0_findAnswer 50 = .ok (.isub, 1) := by decide +kernel
theorem dX0_findAnswer_51 : decode cX0_findAnswer 51 = .ok (.iload_n 2, 1) := by decide +kernel
theorem dX0_findAnswer_52 : decode cX0_findAnswer 52 = .ok (.iload 8, 2) := by decide +kernel
theorem dX0_findAnswer_54 : decode cX0_findAnswer 54 = .ok (.invokevirtual 36, 3) := by decide +kernel
theorem dX0_findAnswer_57 : decode cX0_findAnswer 57 = .ok (.istore 9, 2) := by decide +kernel
theorem dX0_findAnswer_59 : decode cX0_findAnswer 59 = .ok (.iload 9, 2) := by decide +kernel
theorem dX0_findAnswer_61 : decode cX0_findAnswer 61 = .ok (.iload 4, 2) := by decide +kernel
theorem dX0_findAnswer_63 : decode cX0_findAnswer 63 = .ok (.if_icmp .ge 10, 3) := by decide +kernel
theorem dX0_findAnswer_66 : decode cX0_findAnswer 66 = .ok (.iload 8, 2) := by decide +kernel
theorem dX0_findAnswer_68 : decode cX0_findAnswer 68 = .ok (.istore_n 3, 1) := by decide +kernel
theorem dX0_findAnswer_69 : decode cX0_findAnswer 69 = .ok (.iload 9, 2) := by decide +kernel
theorem dX0_findAnswer_71 : decode cX0_findAnswer 71 = .ok (.istore 4, 2) := by decide +kernel
theorem dX0_findAnswer_73 : decode cX0_findAnswer 73 = .ok (.aload_n 0, 1) := by decide +kernel
theorem dX0_findAnswer_74 : decode cX0_findAnswer 74 = .ok (.aload_n 1, 1) := by decide +kernel
theorem dX0_findAnswer_75 : decode cX0_findAnswer 75 = .ok (.aload_n 0, 1) := by decide +kernel
theorem dX0_findAnswer_76 : decode cX0_findAnswer 76 = .ok (.getfield 9, 3) := by decide +kernel
theorem dX0_findAnswer_79 : decode cX0_findAnswer 79 = .ok (.getfield 15, 3) := by decide +kernel
theorem dX0_findAnswer_82 : decode cX0_findAnswer 82 = .ok (.iload_n 2, 1) := by decide +kernel
theorem dX0_findAnswer_83 : decode cX0_findAnswer 83 = .ok (.iload 8, 2) := by decide +kernel
theorem dX0_findAnswer_85 : decode cX0_findAnswer 85 = .ok (.invokevirtual 36, 3) := by decide +kernel
theorem dX0_findAnswer_88 : decode cX0_findAnswer 88 = .ok (.istore 10, 2) := by decide +kernel
theorem dX0_findAnswer_90 : decode cX0_findAnswer 90 = .ok (.iload 10, 2) := by decide +kernel
theorem dX0_findAnswer_92 : decode cX0_findAnswer 92 = .ok (.iload 6, 2) := by decide +kernel
theorem dX0_findAnswer_94 : decode cX0_findAnswer 94 = .ok (.if_icmp .le 11, 3) := by decide +kernel
theorem dX0_findAnswer_97 : decode cX0_findAnswer 97 = .ok (.iload 8, 2) := by decide +kernel
theorem dX0_findAnswer_99 : decode cX0_findAnswer 99 = .ok (.istore 5, 2) := by decide +kernel
theorem dX0_findAnswer_101 : decode cX0_findAnswer 101 = .ok (.iload 10, 2) := by decide +kernel
theorem dX0_findAnswer_103 : decode cX0_findAnswer 103 = .ok (.istore 6, 2) := by decide +kernel
theorem dX0_findAnswer_105 : decode cX0_findAnswer 105 = .ok (.iinc 8 1, 3) := by decide +kernel
theorem dX0_findAnswer_108 : decode cX0_findAnswer 108 = .ok (.goto (-75), 3) := by decide +kernel
theorem dX0_findAnswer_111 : decode cX0_findAnswer 111 = .ok (.iload 4, 2) := by decide +kernel
theorem dX0_findAnswer_113 : decode cX0_findAnswer 113 = .ok (.bipush 9, 2) := by decide +kernel
theorem dX0_findAnswer_115 : decode cX0_findAnswer 115 = .ok (.if_icmp .ge 7, 3) := by decide +kernel
theorem dX0_findAnswer_118 : decode cX0_findAnswer 118 = .ok (.iload_n 3, 1) := by decide +kernel
theorem dX0_findAnswer_119 : decode cX0_findAnswer 119 = .ok (.goto 5, 3) := by decide +kernel
theorem dX0_findAnswer_122 : decode cX0_findAnswer 122 = .ok (.iload 5, 2) := by decide +kernel
theorem dX0_findAnswer_124 : decode cX0_findAnswer 124 = .ok (.ireturn, 1) := by decide +kernel
theorem dX0_countKeeping_0 : decode cX0_countKeeping 0 = .ok (.iconst 0, 1) := by decide +kernel
theorem dX0_countKeeping_1 : decode cX0_countKeeping 1 = .ok (.istore_n 2, 1) := by decide +kernel
theorem dX0_countKeeping_2 : decode cX0_countKeeping 2 = .ok (.aload_n 0, 1) := by decide +kernel
theorem dX0_countKeeping_3 : decode cX0_countKeeping 3 = .ok (.getfield 9, 3) := by decide +kernel
theorem dX0_countKeeping_6 : decode cX0_countKeeping 6 = .ok (.aload_n 0, 1) := by decide +kernel
theorem dX0_countKeeping_7 : decode cX0_countKeeping 7 = .ok (.getfield 9, 3) := by decide +kernel
theorem dX0_countKeeping_10 : decode cX0_countKeeping 10 = .ok (.getfield 15, 3) := by decide +kernel
theorem dX0_countKeeping_13 : decode cX0_countKeeping 13 = .ok (.invokevirtual 21, 3) := by decide +kernel
theorem dX0_countKeeping_16 : decode cX0_countKeeping 16 = .ok (.istore_n 3, 1) := by decide +kernel
theorem dX0_countKeeping_17 : decode cX0_countKeeping 17 = .ok (.iconst 0, 1) := by decide +kernel
theorem dX0_countKeeping_18 : decode cX0_countKeeping 18 = .ok (.istore 4, 2) := by decide +kernel
theorem dX0_countKeeping_20 : decode cX0_countKeeping 20 = .ok (.iload 4, 2) := by decide +kernel
theorem dX0_countKeeping_22 : decode cX0_countKeeping 22 = .ok (.iload_n 3, 1) := by decide +kernel
theorem dX0_countKeeping_23 : decode cX0_countKeeping 23 = .ok (.if_icmp .gt 24, 3) := by decide +kernel
theorem dX0_countKeeping_26 : decode cX0_countKeeping 26 = .ok (.aload_n 0, 1) := by decide +kernel
theorem dX0_countKeeping_27 : decode cX0_countKeeping 27 = .ok (.aload_n 1, 1) := by decide +kernel
theorem dX0_countKeeping_28 : decode cX0_countKeeping 28 = .ok (.iload 4, 2) := by decide +kernel
theorem dX0_countKeeping_30 : decode cX0_countKeeping 30 = .ok (.invokevirtual 25, 3) := by decide +kernel
theorem dX0_countKeeping_33 : decode cX0_countKeeping 33 = .ok (.bipush 9, 2) := by decide +kernel
theorem dX0_countKeeping_35 : decode cX0_countKeeping 35 = .ok (.if_icmp .ge 6, 3) := by decide +kernel
theorem dX0_countKeeping_38 : decode cX0_countKeeping 38 = .ok (.iinc 2 1, 3) := by decide +kernel
theorem dX0_countKeeping_41 : decode cX0_countKeeping 41 = .ok (.iinc 4 1, 3) := by decide +kernel
theorem dX0_countKeeping_44 : decode cX0_countKeeping 44 = .ok (.goto (-24), 3) := by decide +kernel
theorem dX0_countKeeping_47 : decode cX0_countKeeping 47 = .ok (.iload_n 2, 1) := by decide +kernel
theorem dX0_countKeeping_48 : decode cX0_countKeeping 48 = .ok (.ireturn, 1) := by decide +kernel
theorem dX0_longestOwn_0 : decode cX0_longestOwn 0 = .ok (.iconst 0, 1) := by decide +kernel
theorem dX0_longestOwn_1 : decode cX0_longestOwn 1 = .ok (.istore_n 3, 1) := by decide +kernel
theorem dX0_longestOwn_2 : decode cX0_longestOwn 2 = .ok (.aload_n 0, 1) := by decide +kernel
theorem dX0_longestOwn_3 : decode cX0_longestOwn 3 = .ok (.getfield 9, 3) := by decide +kernel
theorem dX0_longestOwn_6 : decode cX0_longestOwn 6 = .ok (.iconst 1, 1) := by decide +kernel
theorem dX0_longestOwn_7 : decode cX0_longestOwn 7 = .ok (.aload_n 0, 1) := by decide +kernel
theorem dX0_longestOwn_8 : decode cX0_longestOwn 8 = .ok (.getfield 9, 3) := by decide +kernel
theorem dX0_longestOwn_11 : decode cX0_longestOwn 11 = .ok (.getfield 15, 3) := by decide +kernel
theorem dX0_longestOwn_14 : decode cX0_longestOwn 14 = .ok (.isub, 1) := by decide +kernel
theorem dX0_longestOwn_15 : decode cX0_longestOwn 15 = .ok (.invokevirtual 21, 3) := by decide +kernel
theorem dX0_longestOwn_18 : decode cX0_longestOwn 18 = .ok (.istore 4, 2) := by decide +kernel
theorem dX0_longestOwn_20 : decode cX0_longestOwn 20 = .ok (.iconst 0, 1) := by decide +kernel
theorem dX0_longestOwn_21 : decode cX0_longestOwn 21 = .ok (.istore 5, 2) := by decide +kernel
theorem dX0_longestOwn_23 : decode cX0_longestOwn 23 = .ok (.iload 5, 2) := by decide +kernel
theorem dX0_longestOwn_25 : decode cX0_longestOwn 25 = .ok (.iload 4, 2) := by decide +kernel
theorem dX0_longestOwn_27 : decode cX0_longestOwn 27 = .ok (.if_icmp .gt 29, 3) := by decide +kernel
theorem dX0_longestOwn_30 : decode cX0_longestOwn 30 = .ok (.iload_n 3, 1) := by decide +kernel
theorem dX0_longestOwn_31 : decode cX0_longestOwn 31 = .ok (.aload_n 0, 1) := by decide +kernel
theorem dX0_longestOwn_32 : decode cX0_longestOwn 32 = .ok (.aload_n 1, 1) := by decide +kernel
theorem dX0_longestOwn_33 : decode cX0_longestOwn 33 = .ok (.aload_n 0, 1) := by decide +kernel
theorem dX0_longestOwn_34 : decode cX0_longestOwn 34 = .ok (.getfield 9, 3) := by decide +kernel
theorem dX0_longestOwn_37 : decode cX0_longestOwn 37 = .ok (.getfield 15, 3) := by decide +kernel
theorem dX0_longestOwn_40 : decode cX0_longestOwn 40 = .ok (.iload_n 2, 1) := by decide +kernel
theorem dX0_longestOwn_41 : decode cX0_longestOwn 41 = .ok (.iload 5, 2) := by decide +kernel
theorem dX0_longestOwn_43 : decode cX0_longestOwn 43 = .ok (.invokevirtual 36, 3) := by decide +kernel
theorem dX0_longestOwn_46 : decode cX0_longestOwn 46 = .ok (.invokestatic 40, 3) := by decide +kernel
theorem dX0_longestOwn_49 : decode cX0_longestOwn 49 = .ok (.istore_n 3, 1) := by decide +kernel
theorem dX0_longestOwn_50 : decode cX0_longestOwn 50 = .ok (.iinc 5 1, 3) := by decide +kernel
theorem dX0_longestOwn_53 : decode cX0_longestOwn 53 = .ok (.goto (-30), 3) := by decide +kernel
theorem dX0_longestOwn_56 : decode cX0_longestOwn 56 = .ok (.iload_n 3, 1) := by decide +kernel
theorem dX0_longestOwn_57 : decode cX0_longestOwn 57 = .ok (.ireturn, 1) := by decide +kernel
theorem dX0_leastOther_0 : decode cX0_leastOther 0 = .ok (.bipush 9, 2) := by decide +kernel
theorem dX0_leastOther_2 : decode cX0_leastOther 2 = .ok (.istore_n 3, 1) := by decide +kernel
theorem dX0_leastOther_3 : decode cX0_leastOther 3 = .ok (.aload_n 0, 1) := by decide +kernel
theorem dX0_leastOther_4 : decode cX0_leastOther 4 = .ok (.getfield 9, 3) := by decide +kernel
theorem dX0_leastOther_7 : decode cX0_leastOther 7 = .ok (.iconst 1, 1) := by decide +kernel
theorem dX0_leastOther_8 : decode cX0_leastOther 8 = .ok (.aload_n 0, 1) := by decide +kernel
theorem dX0_leastOther_9 : decode cX0_leastOther 9 = .ok (.getfield 9, 3) := by decide +kernel
theorem dX0_leastOther_12 : decode cX0_leastOther 12 = .ok (.getfield 15, 3) := by decide +kernel
theorem dX0_leastOther_15 : decode cX0_leastOther 15 = .ok (.isub, 1) := by decide +kernel
theorem dX0_leastOther_16 : decode cX0_leastOther 16 = .ok (.invokevirtual 21, 3) := by decide +kernel
theorem dX0_leastOther_19 : decode cX0_leastOther 19 = .ok (.istore 4, 2) := by decide +kernel
theorem dX0_leastOther_21 : decode cX0_leastOther 21 = .ok (.iconst 0, 1) := by decide +kernel
theorem dX0_leastOther_22 : decode cX0_leastOther 22 = .ok (.istore 5, 2) := by decide +kernel
theorem dX0_leastOther_24 : decode cX0_leastOther 24 = .ok (.iload 5, 2) := by decide +kernel
theorem dX0_leastOther_26 : decode cX0_leastOther 26 = .ok (.iload 4, 2) := by decide +kernel
theorem dX0_leastOther_28 : decode cX0_leastOther 28 = .ok (.if_icmp .gt 31, 3) := by decide +kernel
theorem dX0_leastOther_31 : decode cX0_leastOther 31 = .ok (.iload_n 3, 1) := by decide +kernel
theorem dX0_leastOther_32 : decode cX0_leastOther 32 = .ok (.aload_n 0, 1) := by decide +kernel
theorem dX0_leastOther_33 : decode cX0_leastOther 33 = .ok (.aload_n 1, 1) := by decide +kernel
theorem dX0_leastOther_34 : decode cX0_leastOther 34 = .ok (.iconst 1, 1) := by decide +kernel
theorem dX0_leastOther_35 : decode cX0_leastOther 35 = .ok (.aload_n 0, 1) := by decide +kernel
theorem dX0_leastOther_36 : decode cX0_leastOther 36 = .ok (.getfield 9, 3) := by decide +kernel
theorem dX0_leastOther_39 : decode cX0_leastOther 39 = .ok (.getfield 15, 3) := by decide +kernel
theorem dX0_leastOther_42 : decode cX0_leastOther 42 = .ok (.isub, 1) := by decide +kernel
theorem dX0_leastOther_43 : decode cX0_leastOther 43 = .ok (.iload_n 2, 1) := by decide +kernel
theorem dX0_leastOther_44 : decode cX0_leastOther 44 = .ok (.iload 5, 2) := by decide +kernel
theorem dX0_leastOther_46 : decode cX0_leastOther 46 = .ok (.invokevirtual 36, 3) := by decide +kernel
theorem dX0_leastOther_49 : decode cX0_leastOther 49 = .ok (.invokestatic 46, 3) := by decide +kernel
theorem dX0_leastOther_52 : decode cX0_leastOther 52 = .ok (.istore_n 3, 1) := by decide +kernel
theorem dX0_leastOther_53 : decode cX0_leastOther 53 = .ok (.iinc 5 1, 3) := by decide +kernel
theorem dX0_leastOther_56 : decode cX0_leastOther 56 = .ok (.goto (-32), 3) := by decide +kernel
theorem dX0_leastOther_59 : decode cX0_leastOther 59 = .ok (.iload_n 3, 1) := by decide +kernel
theorem dX0_leastOther_60 : decode cX0_leastOther 60 = .ok (.ireturn, 1) := by decide +kernel
theorem dX0_timeBehind_0 : decode cX0_timeBehind 0 = .ok (.aload_n 0, 1) := by decide +kernel
theorem dX0_timeBehind_1 : decode cX0_timeBehind 1 = .ok (.getfield 9, 3) := by decide +kernel
theorem dX0_timeBehind_4 : decode cX0_timeBehind 4 = .ok (.iload_n 3, 1) := by decide +kernel
theorem dX0_timeBehind_5 : decode cX0_timeBehind 5 = .ok (.iload 4, 2) := by decide +kernel
theorem dX0_timeBehind_7 : decode cX0_timeBehind 7 = .ok (.invokevirtual 49, 3) := by decide +kernel
theorem dX0_timeBehind_10 : decode cX0_timeBehind 10 = .ok (.istore 5, 2) := by decide +kernel
theorem dX0_timeBehind_12 : decode cX0_timeBehind 12 = .ok (.iload 5, 2) := by decide +kernel
theorem dX0_timeBehind_14 : decode cX0_timeBehind 14 = .ok (.aload_n 0, 1) := by decide +kernel
theorem dX0_timeBehind_15 : decode cX0_timeBehind 15 = .ok (.getfield 9, 3) := by decide +kernel
theorem dX0_timeBehind_18 : decode cX0_timeBehind 18 = .ok (.getfield 15, 3) := by decide +kernel
theorem dX0_timeBehind_21 : decode cX0_timeBehind 21 = .ok (.if_icmp .ne 7, 3) := by decide +kernel
theorem dX0_timeBehind_24 : decode cX0_timeBehind 24 = .ok (.iload_n 3, 1) := by decide +kernel
theorem dX0_timeBehind_25 : decode cX0_timeBehind 25 = .ok (.goto 5, 3) := by decide +kernel
theorem dX0_timeBehind_28 : decode cX0_timeBehind 28 = .ok (.iload 4, 2) := by decide +kernel
theorem dX0_timeBehind_30 : decode cX0_timeBehind 30 = .ok (.istore 6, 2) := by decide +kernel
theorem dX0_timeBehind_32 : decode cX0_timeBehind 32 = .ok (.aload_n 0, 1) := by decide +kernel
theorem dX0_timeBehind_33 : decode cX0_timeBehind 33 = .ok (.getfield 9, 3) := by decide +kernel
theorem dX0_timeBehind_36 : decode cX0_timeBehind 36 = .ok (.iload 6, 2) := by decide +kernel
theorem dX0_timeBehind_38 : decode cX0_timeBehind 38 = .ok (.invokevirtual 52, 3) := by decide +kernel
theorem dX0_timeBehind_41 : decode cX0_timeBehind 41 = .ok (.istore 7, 2) := by decide +kernel
theorem dX0_timeBehind_43 : decode cX0_timeBehind 43 = .ok (.iload 5, 2) := by decide +kernel
theorem dX0_timeBehind_45 : decode cX0_timeBehind 45 = .ok (.iload_n 2, 1) := by decide +kernel
theorem dX0_timeBehind_46 : decode cX0_timeBehind 46 = .ok (.if_icmp .ne 7, 3) := by decide +kernel
theorem dX0_timeBehind_49 : decode cX0_timeBehind 49 = .ok (.iconst 1, 1) := by decide +kernel
theorem dX0_timeBehind_50 : decode cX0_timeBehind 50 = .ok (.goto 4, 3) := by decide +kernel
theorem dX0_timeBehind_53 : decode cX0_timeBehind 53 = .ok (.iconst 0, 1) := by decide +kernel
theorem dX0_timeBehind_54 : decode cX0_timeBehind 54 = .ok (.istore 8, 2) := by decide +kernel
theorem dX0_timeBehind_56 : decode cX0_timeBehind 56 = .ok (.aload_n 0, 1) := by decide +kernel
theorem dX0_timeBehind_57 : decode cX0_timeBehind 57 = .ok (.getfield 9, 3) := by decide +kernel
theorem dX0_timeBehind_60 : decode cX0_timeBehind 60 = .ok (.iload_n 2, 1) := by decide +kernel
theorem dX0_timeBehind_61 : decode cX0_timeBehind 61 = .ok (.invokevirtual 55, 3) := by decide +kernel
theorem dX0_timeBehind_64 : decode cX0_timeBehind 64 = .ok (.iload 8, 2) := by decide +kernel
theorem dX0_timeBehind_66 : decode cX0_timeBehind 66 = .ok (.ifCond .eq 7, 3) := by decide +kernel
theorem dX0_timeBehind_69 : decode cX0_timeBehind 69 = .ok (.iconst (-1), 1) := by decide +kernel
theorem dX0_timeBehind_70 : decode cX0_timeBehind 70 = .ok (.goto 4, 3) := by decide +kernel
theorem dX0_timeBehind_73 : decode cX0_timeBehind 73 = .ok (.iconst 1, 1) := by decide +kernel
theorem dX0_timeBehind_74 : decode cX0_timeBehind 74 = .ok (.iadd, 1) := by decide +kernel
theorem dX0_timeBehind_75 : decode cX0_timeBehind 75 = .ok (.istore 9, 2) := by decide +kernel
theorem dX0_timeBehind_77 : decode cX0_timeBehind 77 = .ok (.aload_n 0, 1) := by decide +kernel
theorem dX0_timeBehind_78 : decode cX0_timeBehind 78 = .ok (.getfield 9, 3) := by decide +kernel
theorem dX0_timeBehind_81 : decode cX0_timeBehind 81 = .ok (.iload_n 2, 1) := by decide +kernel
theorem dX0_timeBehind_82 : decode cX0_timeBehind 82 = .ok (.invokevirtual 21, 3) := by decide +kernel
theorem dX0_timeBehind_85 : decode cX0_timeBehind 85 = .ok (.iload 8, 2) := by decide +kernel
theorem dX0_timeBehind_87 : decode cX0_timeBehind 87 = .ok (.ifCond .eq 9, 3) := by decide +kernel
theorem dX0_timeBehind_90 : decode cX0_timeBehind 90 = .ok (.iload 6, 2) := by decide +kernel
theorem dX0_timeBehind_92 : decode cX0_timeBehind 92 = .ok (.ineg, 1) := by decide +kernel
theorem dX0_timeBehind_93 : decode cX0_timeBehind 93 = .ok (.goto 5, 3) := by decide +kernel
theorem dX0_timeBehind_96 : decode cX0_timeBehind 96 = .ok (.iload 7, 2) := by decide +kernel
theorem dX0_timeBehind_98 : decode cX0_timeBehind 98 = .ok (.iadd, 1) := by decide +kernel
theorem dX0_timeBehind_99 : decode cX0_timeBehind 99 = .ok (.istore 10, 2) := by decide +kernel
theorem dX0_timeBehind_101 : decode cX0_timeBehind 101 = .ok (.aload_n 0, 1) := by decide +kernel
theorem dX0_timeBehind_102 : decode cX0_timeBehind 102 = .ok (.getfield 9, 3) := by decide +kernel
theorem dX0_timeBehind_105 : decode cX0_timeBehind 105 = .ok (.iconst 1, 1) := by decide +kernel
theorem dX0_timeBehind_106 : decode cX0_timeBehind 106 = .ok (.iload_n 2, 1) := by decide +kernel
theorem dX0_timeBehind_107 : decode cX0_timeBehind 107 = .ok (.isub, 1) := by decide +kernel
theorem dX0_timeBehind_108 : decode cX0_timeBehind 108 = .ok (.invokevirtual 21, 3) := by decide +kernel
theorem dX0_timeBehind_111 : decode cX0_timeBehind 111 = .ok (.iload 8, 2) := by decide +kernel
theorem dX0_timeBehind_113 : decode cX0_timeBehind 113 = .ok (.ifCond .eq 8, 3) := by decide +kernel
theorem dX0_timeBehind_116 : decode cX0_timeBehind 116 = .ok (.iload 7, 2) := by decide +kernel
theorem dX0_timeBehind_118 : decode cX0_timeBehind 118 = .ok (.goto 6, 3) := by decide +kernel
theorem dX0_timeBehind_121 : decode cX0_timeBehind 121 = .ok (.iload 6, 2) := by decide +kernel
theorem dX0_timeBehind_123 : decode cX0_timeBehind 123 = .ok (.ineg, 1) := by decide +kernel
theorem dX0_timeBehind_124 : decode cX0_timeBehind 124 = .ok (.iadd, 1) := by decide +kernel
theorem dX0_timeBehind_125 : decode cX0_timeBehind 125 = .ok (.istore 11, 2) := by decide +kernel
theorem dX0_timeBehind_127 : decode cX0_timeBehind 127 = .ok (.aload_n 1, 1) := by decide +kernel
theorem dX0_timeBehind_128 : decode cX0_timeBehind 128 = .ok (.iload 9, 2) := by decide +kernel
theorem dX0_timeBehind_130 : decode cX0_timeBehind 130 = .ok (.iload 10, 2) := by decide +kernel
theorem dX0_timeBehind_132 : decode cX0_timeBehind 132 = .ok (.iload 11, 2) := by decide +kernel
theorem dX0_timeBehind_134 : decode cX0_timeBehind 134 = .ok (.iload_n 2, 1) := by decide +kernel
theorem dX0_timeBehind_135 : decode cX0_timeBehind 135 = .ok (.aload_n 0, 1) := by decide +kernel
theorem dX0_timeBehind_136 : decode cX0_timeBehind 136 = .ok (.getfield 9, 3) := by decide +kernel
theorem dX0_timeBehind_139 : decode cX0_timeBehind 139 = .ok (.getfield 15, 3) := by decide +kernel
theorem dX0_timeBehind_142 : decode cX0_timeBehind 142 = .ok (.if_icmp .eq 7, 3) := by decide +kernel
theorem dX0_timeBehind_145 : decode cX0_timeBehind 145 = .ok (.iconst 1, 1) := by decide +kernel
theorem dX0_timeBehind_146 : decode cX0_timeBehind 146 = .ok (.goto 4, 3) := by decide +kernel
theorem dX0_timeBehind_149 : decode cX0_timeBehind 149 = .ok (.iconst 0, 1) := by decide +kernel
theorem dX0_timeBehind_150 : decode cX0_timeBehind 150 = .ok (.invokevirtual 58, 3) := by decide +kernel
theorem dX0_timeBehind_153 : decode cX0_timeBehind 153 = .ok (.istore 12, 2) := by decide +kernel
theorem dX0_timeBehind_155 : decode cX0_timeBehind 155 = .ok (.iload 12, 2) := by decide +kernel
theorem dX0_timeBehind_157 : decode cX0_timeBehind 157 = .ok (.bipush 8, 2) := by decide +kernel
theorem dX0_timeBehind_159 : decode cX0_timeBehind 159 = .ok (.if_icmp .ge 8, 3) := by decide +kernel
theorem dX0_timeBehind_162 : decode cX0_timeBehind 162 = .ok (.iload 12, 2) := by decide +kernel
theorem dX0_timeBehind_164 : decode cX0_timeBehind 164 = .ok (.goto 5, 3) := by decide +kernel
theorem dX0_timeBehind_167 : decode cX0_timeBehind 167 = .ok (.bipush 9, 2) := by decide +kernel
theorem dX0_timeBehind_169 : decode cX0_timeBehind 169 = .ok (.ireturn, 1) := by decide +kernel
theorem dX1_init_0 : decode cX1_init 0 = .ok (.aload_n 0, 1) := by decide +kernel
theorem dX1_init_1 : decode cX1_init 1 = .ok (.invokespecial 3, 3) := by decide +kernel
theorem dX1_init_4 : decode cX1_init 4 = .ok (.aload_n 0, 1) := by decide +kernel
theorem dX1_init_5 : decode cX1_init 5 = .ok (.aload_n 1, 1) := by decide +kernel
theorem dX1_init_6 : decode cX1_init 6 = .ok (.putfield 9, 3) := by decide +kernel
theorem dX1_init_9 : decode cX1_init 9 = .ok (.return_, 1) := by decide +kernel
theorem dX1_seesWinOf_0 : decode cX1_seesWinOf 0 = .ok (.aload_n 0, 1) := by decide +kernel
theorem dX1_seesWinOf_1 : decode cX1_seesWinOf 1 = .ok (.getfield 9, 3) := by decide +kernel
theorem dX1_seesWinOf_4 : decode cX1_seesWinOf 4 = .ok (.iload_n 1, 1) := by decide +kernel
theorem dX1_seesWinOf_5 : decode cX1_seesWinOf 5 = .ok (.invokevirtual 15, 3) := by decide +kernel
theorem dX1_seesWinOf_8 : decode cX1_seesWinOf 8 = .ok (.istore_n 3, 1) := by decide +kernel
theorem dX1_seesWinOf_9 : decode cX1_seesWinOf 9 = .ok (.aload_n 0, 1) := by decide +kernel
theorem dX1_seesWinOf_10 : decode cX1_seesWinOf 10 = .ok (.getfield 9, 3) := by decide +kernel
theorem dX1_seesWinOf_13 : decode cX1_seesWinOf 13 = .ok (.iconst 1, 1) := by decide +kernel
theorem dX1_seesWinOf_14 : decode cX1_seesWinOf 14 = .ok (.iload_n 1, 1) := by decide +kernel
theorem dX1_seesWinOf_15 : decode cX1_seesWinOf 15 = .ok (.isub, 1) := by decide +kernel
theorem dX1_seesWinOf_16 : decode cX1_seesWinOf 16 = .ok (.invokevirtual 15, 3) := by decide +kernel
theorem dX1_seesWinOf_19 : decode cX1_seesWinOf 19 = .ok (.istore 4, 2) := by decide +kernel
theorem dX1_seesWinOf_21 : decode cX1_seesWinOf 21 = .ok (.aload_n 0, 1) := by decide +kernel
theorem dX1_seesWinOf_22 : decode cX1_seesWinOf 22 = .ok (.iload_n 2, 1) := by decide +kernel
theorem dX1_seesWinOf_23 : decode cX1_seesWinOf 23 = .ok (.iconst 3, 1) := by decide +kernel
theorem dX1_seesWinOf_24 : decode cX1_seesWinOf 24 = .ok (.invokestatic 21, 3) := by decide +kernel
theorem dX1_seesWinOf_27 : decode cX1_seesWinOf 27 = .ok (.aload_n 0, 1) := by decide +kernel
theorem dX1_seesWinOf_28 : decode cX1_seesWinOf 28 = .ok (.getfield 9, 3) := by decide +kernel
theorem dX1_seesWinOf_31 : decode cX1_seesWinOf 31 = .ok (.iload_n 1, 1) := by decide +kernel
theorem dX1_seesWinOf_32 : decode cX1_seesWinOf 32 = .ok (.invokevirtual 27, 3) := by decide +kernel
theorem dX1_seesWinOf_35 : decode cX1_seesWinOf 35 = .ok (.iload_n 3, 1) := by decide +kernel
theorem dX1_seesWinOf_36 : decode cX1_seesWinOf 36 = .ok (.iload 4, 2) := by decide +kernel
theorem dX1_seesWinOf_38 : decode cX1_seesWinOf 38 = .ok (.iload_n 1, 1) := by decide +kernel
theorem dX1_seesWinOf_39 : decode cX1_seesWinOf 39 = .ok (.aload_n 0, 1) := by decide +kernel
theorem dX1_seesWinOf_40 : decode cX1_seesWinOf 40 = .ok (.getfield 9, 3) := by decide +kernel
theorem dX1_seesWinOf_43 : decode cX1_seesWinOf 43 = .ok (.getfield 30, 3) := by decide +kernel
theorem dX1_seesWinOf_46 : decode cX1_seesWinOf 46 = .ok (.if_icmp .ne 7, 3) := by decide +kernel
theorem dX1_seesWinOf_49 : decode cX1_seesWinOf 49 = .ok (.iconst 1, 1) := by decide +kernel
theorem dX1_seesWinOf_50 : decode cX1_seesWinOf 50 = .ok (.goto 4, 3) := by decide +kernel
theorem dX1_seesWinOf_53 : decode cX1_seesWinOf 53 = .ok (.iconst 0, 1) := by decide +kernel
theorem dX1_seesWinOf_54 : decode cX1_seesWinOf 54 = .ok (.invokevirtual 34, 3) := by decide +kernel
theorem dX1_seesWinOf_57 : decode cX1_seesWinOf 57 = .ok (.ireturn, 1) := by decide +kernel
theorem dX1_seesWin_0 : decode cX1_seesWin 0 = .ok (.iload_n 2, 1) := by decide +kernel
theorem dX1_seesWin_1 : decode cX1_seesWin 1 = .ok (.ifCond .gt 5, 3) := by decide +kernel
theorem dX1_seesWin_4 : decode cX1_seesWin 4 = .ok (.iconst 1, 1) := by decide +kernel
theorem dX1_seesWin_5 : decode cX1_seesWin 5 = .ok (.ireturn, 1) := by decide +kernel
theorem dX1_seesWin_6 : decode cX1_seesWin 6 = .ok (.iload_n 1, 1) := by decide +kernel
theorem dX1_seesWin_7 : decode cX1_seesWin 7 = .ok (.ifCond .le 21, 3) := by decide +kernel
theorem dX1_seesWin_10 : decode cX1_seesWin 10 = .ok (.iload_n 1, 1) := by decide +kernel
theorem dX1_seesWin_11 : decode cX1_seesWin 11 = .ok (.iload_n 2, 1) := by decide +kernel
theorem dX1_seesWin_12 : decode cX1_seesWin 12 = .ok (.if_icmp .lt 16, 3) := by decide +kernel
theorem dX1_seesWin_15 : decode cX1_seesWin 15 = .ok (.iload_n 2, 1) := by decide +kernel
theorem dX1_seesWin_16 : decode cX1_seesWin 16 = .ok (.iconst 2, 1) := by decide +kernel
theorem dX1_seesWin_17 : decode cX1_seesWin 17 = .ok (.aload_n 0, 1) := by decide +kernel
theorem dX1_seesWin_18 : decode cX1_seesWin 18 = .ok (.getfield 9, 3) := by decide +kernel
theorem dX1_seesWin_21 : decode cX1_seesWin 21 = .ok (.getfield 38, 3) := by decide +kernel
theorem dX1_seesWin_24 : decode cX1_seesWin 24 = .ok (.imul, 1) := by decide +kernel
theorem dX1_seesWin_25 : decode cX1_seesWin 25 = .ok (.if_icmp .lt 5, 3) := by decide +kernel
theorem dX1_seesWin_28 : decode cX1_seesWin 28 = .ok (.iconst 0, 1) := by decide +kernel
theorem dX1_seesWin_29 : decode cX1_seesWin 29 = .ok (.ireturn, 1) := by decide +kernel
theorem dX1_seesWin_30 : decode cX1_seesWin 30 = .ok (.iload 5, 2) := by decide +kernel
theorem dX1_seesWin_32 : decode cX1_seesWin 32 = .ok (.ifCond .eq 15, 3) := by decide +kernel
theorem dX1_seesWin_35 : decode cX1_seesWin 35 = .ok (.aload_n 0, 1) := by decide +kernel
theorem dX1_seesWin_36 : decode cX1_seesWin 36 = .ok (.iload_n 1, 1) := by decide +kernel
theorem dX1_seesWin_37 : decode cX1_seesWin 37 = .ok (.iload_n 2, 1) := by decide +kernel
theorem dX1_seesWin_38 : decode cX1_seesWin 38 = .ok (.iload_n 3, 1) := by decide +kernel
theorem dX1_seesWin_39 : decode cX1_seesWin 39 = .ok (.iload 4, 2) := by decide +kernel
theorem dX1_seesWin_41 : decode cX1_seesWin 41 = .ok (.invokevirtual 41, 3) := by decide +kernel
theorem dX1_seesWin_44 : decode cX1_seesWin 44 = .ok (.goto 12, 3) := by decide +kernel
theorem dX1_seesWin_47 : decode cX1_seesWin 47 = .ok (.aload_n 0, 1) := by decide +kernel
theorem dX1_seesWin_48 : decode cX1_seesWin 48 = .ok (.iload_n 1, 1) := by decide +kernel
theorem dX1_seesWin_49 : decode cX1_seesWin 49 = .ok (.iload_n 2, 1) := by decide +kernel
theorem dX1_seesWin_50 : decode cX1_seesWin 50 = .ok (.iload_n 3, 1) := by decide +kernel
theorem dX1_seesWin_51 : decode cX1_seesWin 51 = .ok (.iload 4, 2) := by decide +kernel
theorem dX1_seesWin_53 : decode cX1_seesWin 53 = .ok (.invokevirtual 45, 3) := by decide +kernel
theorem dX1_seesWin_56 : decode cX1_seesWin 56 = .ok (.ireturn, 1) := by decide +kernel
theorem dX1_seesBid_0 : decode cX1_seesBid 0 = .ok (.iconst 0, 1) := by decide +kernel
theorem dX1_seesBid_1 : decode cX1_seesBid 1 = .ok (.istore 5, 2) := by decide +kernel
theorem dX1_seesBid_3 : decode cX1_seesBid 3 = .ok (.iload 5, 2) := by decide +kernel
theorem dX1_seesBid_5 : decode cX1_seesBid 5 = .ok (.iload_n 3, 1) := by decide +kernel
theorem dX1_seesBid_6 : decode cX1_seesBid 6 = .ok (.if_icmp .gt 25, 3) := by decide +kernel
theorem dX1_seesBid_9 : decode cX1_seesBid 9 = .ok (.aload_n 0, 1) := by decide +kernel
theorem dX1_seesBid_10 : decode cX1_seesBid 10 = .ok (.iload_n 1, 1) := by decide +kernel
theorem dX1_seesBid_11 : decode cX1_seesBid 11 = .ok (.iload_n 2, 1) := by decide +kernel
theorem dX1_seesBid_12 : decode cX1_seesBid 12 = .ok (.iload_n 3, 1) := by decide +kernel
theorem dX1_seesBid_13 : decode cX1_seesBid 13 = .ok (.iload 4, 2) := by decide +kernel
theorem dX1_seesBid_15 : decode cX1_seesBid 15 = .ok (.iload 5, 2) := by decide +kernel
theorem dX1_seesBid_17 : decode cX1_seesBid 17 = .ok (.invokevirtual 48, 3) := by decide +kernel
theorem dX1_seesBid_20 : decode cX1_seesBid 20 = .ok (.ifCond .eq 5, 3) := by decide +kernel
theorem dX1_seesBid_23 : decode cX1_seesBid 23 = .ok (.iconst 1, 1) := by decide +kernel
theorem dX1_seesBid_24 : decode cX1_seesBid 24 = .ok (.ireturn, 1) := by decide +kernel
theorem dX1_seesBid_25 : decode cX1_seesBid 25 = .ok (.iinc 5 1, 3) := by decide +kernel
theorem dX1_seesBid_28 : decode cX1_seesBid 28 = .ok (.goto (-25), 3) := by decide +kernel
theorem dX1_seesBid_31 : decode cX1_seesBid 31 = .ok (.iconst 0, 1) := by decide +kernel
theorem dX1_seesBid_32 : decode cX1_seesBid 32 = .ok (.ireturn, 1) := by decide +kernel
theorem dX1_standsAllAnswers_0 : decode cX1_standsAllAnswers 0 = .ok (.aload_n 0, 1) := by decide +kernel
theorem dX1_standsAllAnswers_1 : decode cX1_standsAllAnswers 1 = .ok (.iload 5, 2) := by decide +kernel
theorem dX1_standsAllAnswers_3 : decode cX1_standsAllAnswers 3 = .ok (.invokevirtual 52, 3) := by decide +kernel
theorem dX1_standsAllAnswers_6 : decode cX1_standsAllAnswers 6 = .ok (.ifCond .eq 20, 3) := by decide +kernel
theorem dX1_standsAllAnswers_9 : decode cX1_standsAllAnswers 9 = .ok (.aload_n 0, 1) := by decide +kernel
theorem dX1_standsAllAnswers_10 : decode cX1_standsAllAnswers 10 = .ok (.iload_n 1, 1) := by decide +kernel
theorem dX1_standsAllAnswers_11 : decode cX1_standsAllAnswers 11 = .ok (.iload_n 2, 1) := by decide +kernel
theorem dX1_standsAllAnswers_12 : decode cX1_standsAllAnswers 12 = .ok (.iload_n 3, 1) := by decide +kernel
theorem dX1_standsAllAnswers_13 : decode cX1_standsAllAnswers 13 = .ok (.iload 4, 2) := by decide +kernel
theorem dX1_standsAllAnswers_15 : decode cX1_standsAllAnswers 15 = .ok (.iload 5, 2) := by decide +kernel
theorem dX1_standsAllAnswers_17 : decode cX1_standsAllAnswers 17 = .ok (.iconst 0, 1) := by decide +kernel
theorem dX1_standsAllAnswers_18 : decode cX1_standsAllAnswers 18 = .ok (.invokevirtual 56, 3) := by decide +kernel
theorem dX1_standsAllAnswers_21 : decode cX1_standsAllAnswers 21 = .ok (.ifCond .ne 5, 3) := by decide +kernel
theorem dX1_standsAllAnswers_24 : decode cX1_standsAllAnswers 24 = .ok (.iconst 0, 1) := by decide +kernel
theorem dX1_standsAllAnswers_25 : decode cX1_standsAllAnswers 25 = .ok (.ireturn, 1) := by decide +kernel
theorem dX1_standsAllAnswers_26 : decode cX1_standsAllAnswers 26 = .ok (.aload_n 0, 1) := by decide +kernel
theorem dX1_standsAllAnswers_27 : decode cX1_standsAllAnswers 27 = .ok (.iload 5, 2) := by decide +kernel
theorem dX1_standsAllAnswers_29 : decode cX1_standsAllAnswers 29 = .ok (.invokevirtual 60, 3) := by decide +kernel
theorem dX1_standsAllAnswers_32 : decode cX1_standsAllAnswers 32 = .ok (.istore 6, 2) := by decide +kernel
theorem dX1_standsAllAnswers_34 : decode cX1_standsAllAnswers 34 = .ok (.iload 6, 2) := by decide +kernel
theorem dX1_standsAllAnswers_36 : decode cX1_standsAllAnswers 36 = .ok (.iload 4, 2) := by decide +kernel
theorem dX1_standsAllAnswers_38 : decode cX1_standsAllAnswers 38 = .ok (.if_icmp .gt 26, 3) := by decide +kernel
theorem dX1_standsAllAnswers_41 : decode cX1_standsAllAnswers 41 = .ok (.aload_n 0, 1) := by decide +kernel
theorem dX1_standsAllAnswers_42 : decode cX1_standsAllAnswers 42 = .ok (.iload_n 1, 1) := by decide +kernel
theorem dX1_standsAllAnswers_43 : decode cX1_standsAllAnswers 43 = .ok (.iload_n 2, 1) := by decide +kernel
theorem dX1_standsAllAnswers_44 : decode cX1_standsAllAnswers 44 = .ok (.iload_n 3, 1) := by decide +kernel
theorem dX1_standsAllAnswers_45 : decode cX1_standsAllAnswers 45 = .ok (.iload 4, 2) := by decide +kernel
theorem dX1_standsAllAnswers_47 : decode cX1_standsAllAnswers 47 = .ok (.iload 6, 2) := by decide +kernel
theorem dX1_standsAllAnswers_49 : decode cX1_standsAllAnswers 49 = .ok (.iconst 0, 1) := by decide +kernel
theorem dX1_standsAllAnswers_50 : decode cX1_standsAllAnswers 50 = .ok (.invokevirtual 63, 3) := by decide +kernel
theorem dX1_standsAllAnswers_53 : decode cX1_standsAllAnswers 53 = .ok (.ifCond .ne 5, 3) := by decide +kernel
theorem dX1_standsAllAnswers_56 : decode cX1_standsAllAnswers 56 = .ok (.iconst 0, 1) := by decide +kernel
theorem dX1_standsAllAnswers_57 : decode cX1_standsAllAnswers 57 = .ok (.ireturn, 1) := by decide +kernel
theorem dX1_standsAllAnswers_58 : decode cX1_standsAllAnswers 58 = .ok (.iinc 6 1, 3) := by decide +kernel
theorem dX1_standsAllAnswers_61 : decode cX1_standsAllAnswers 61 = .ok (.goto (-27), 3) := by decide +kernel
theorem dX1_standsAllAnswers_64 : decode cX1_standsAllAnswers 64 = .ok (.iconst 1, 1) := by decide +kernel
theorem dX1_standsAllAnswers_65 : decode cX1_standsAllAnswers 65 = .ok (.ireturn, 1) := by decide +kernel
theorem dX1_seesAnswers_0 : decode cX1_seesAnswers 0 = .ok (.iconst 0, 1) := by decide +kernel
theorem dX1_seesAnswers_1 : decode cX1_seesAnswers 1 = .ok (.istore 5, 2) := by decide +kernel
theorem dX1_seesAnswers_3 : decode cX1_seesAnswers 3 = .ok (.iload 5, 2) := by decide +kernel
theorem dX1_seesAnswers_5 : decode cX1_seesAnswers 5 = .ok (.iload 4, 2) := by decide +kernel
theorem dX1_seesAnswers_7 : decode cX1_seesAnswers 7 = .ok (.if_icmp .gt 25, 3) := by decide +kernel
theorem dX1_seesAnswers_10 : decode cX1_seesAnswers 10 = .ok (.aload_n 0, 1) := by decide +kernel
theorem dX1_seesAnswers_11 : decode cX1_seesAnswers 11 = .ok (.iload_n 1, 1) := by decide +kernel
theorem dX1_seesAnswers_12 : decode cX1_seesAnswers 12 = .ok (.iload_n 2, 1) := by decide +kernel
theorem dX1_seesAnswers_13 : decode cX1_seesAnswers 13 = .ok (.iload_n 3, 1) := by decide +kernel
theorem dX1_seesAnswers_14 : decode cX1_seesAnswers 14 = .ok (.iload 4, 2) := by decide +kernel
theorem dX1_seesAnswers_16 : decode cX1_seesAnswers 16 = .ok (.iload 5, 2) := by decide +kernel
theorem dX1_seesAnswers_18 : decode cX1_seesAnswers 18 = .ok (.invokevirtual 66, 3) := by decide +kernel
theorem dX1_seesAnswers_21 : decode cX1_seesAnswers 21 = .ok (.ifCond .ne 5, 3) := by decide +kernel
theorem dX1_seesAnswers_24 : decode cX1_seesAnswers 24 = .ok (.iconst 0, 1) := by decide +kernel
theorem dX1_seesAnswers_25 : decode cX1_seesAnswers 25 = .ok (.ireturn, 1) := by decide +kernel
theorem dX1_seesAnswers_26 : decode cX1_seesAnswers 26 = .ok (.iinc 5 1, 3) := by decide +kernel
theorem dX1_seesAnswers_29 : decode cX1_seesAnswers 29 = .ok (.goto (-26), 3) := by decide +kernel
theorem dX1_seesAnswers_32 : decode cX1_seesAnswers 32 = .ok (.iconst 1, 1) := by decide +kernel
theorem dX1_seesAnswers_33 : decode cX1_seesAnswers 33 = .ok (.ireturn, 1) := by decide +kernel
theorem dX1_hasAnswer_0 : decode cX1_hasAnswer 0 = .ok (.aload_n 0, 1) := by decide +kernel
theorem dX1_hasAnswer_1 : decode cX1_hasAnswer 1 = .ok (.iload 5, 2) := by decide +kernel
theorem dX1_hasAnswer_3 : decode cX1_hasAnswer 3 = .ok (.invokevirtual 52, 3) := by decide +kernel
theorem dX1_hasAnswer_6 : decode cX1_hasAnswer 6 = .ok (.ifCond .eq 20, 3) := by decide +kernel
theorem dX1_hasAnswer_9 : decode cX1_hasAnswer 9 = .ok (.aload_n 0, 1) := by decide +kernel
theorem dX1_hasAnswer_10 : decode cX1_hasAnswer 10 = .ok (.iload_n 1, 1) := by decide +kernel
theorem dX1_hasAnswer_11 : decode cX1_hasAnswer 11 = .ok (.iload_n 2, 1) := by decide +kernel
theorem dX1_hasAnswer_12 : decode cX1_hasAnswer 12 = .ok (.iload_n 3, 1) := by decide +kernel
theorem dX1_hasAnswer_13 : decode cX1_hasAnswer 13 = .ok (.iload 4, 2) := by decide +kernel
theorem dX1_hasAnswer_15 : decode cX1_hasAnswer 15 = .ok (.iload 5, 2) := by decide +kernel
theorem dX1_hasAnswer_17 : decode cX1_hasAnswer 17 = .ok (.iconst 1, 1) := by decide +kernel
theorem dX1_hasAnswer_18 : decode cX1_hasAnswer 18 = .ok (.invokevirtual 63, 3) := by decide +kernel
theorem dX1_hasAnswer_21 : decode cX1_hasAnswer 21 = .ok (.ifCond .eq 5, 3) := by decide +kernel
theorem dX1_hasAnswer_24 : decode cX1_hasAnswer 24 = .ok (.iconst 1, 1) := by decide +kernel
theorem dX1_hasAnswer_25 : decode cX1_hasAnswer 25 = .ok (.ireturn, 1) := by decide +kernel
theorem dX1_hasAnswer_26 : decode cX1_hasAnswer 26 = .ok (.aload_n 0, 1) := by decide +kernel
theorem dX1_hasAnswer_27 : decode cX1_hasAnswer 27 = .ok (.iload 5, 2) := by decide +kernel
theorem dX1_hasAnswer_29 : decode cX1_hasAnswer 29 = .ok (.invokevirtual 60, 3) := by decide +kernel
theorem dX1_hasAnswer_32 : decode cX1_hasAnswer 32 = .ok (.istore 6, 2) := by decide +kernel
theorem dX1_hasAnswer_34 : decode cX1_hasAnswer 34 = .ok (.iload 6, 2) := by decide +kernel
theorem dX1_hasAnswer_36 : decode cX1_hasAnswer 36 = .ok (.iload_n 3, 1) := by decide +kernel
theorem dX1_hasAnswer_37 : decode cX1_hasAnswer 37 = .ok (.if_icmp .gt 26, 3) := by decide +kernel
theorem dX1_hasAnswer_40 : decode cX1_hasAnswer 40 = .ok (.aload_n 0, 1) := by decide +kernel
theorem dX1_hasAnswer_41 : decode cX1_hasAnswer 41 = .ok (.iload_n 1, 1) := by decide +kernel
theorem dX1_hasAnswer_42 : decode cX1_hasAnswer 42 = .ok (.iload_n 2, 1) := by decide +kernel
theorem dX1_hasAnswer_43 : decode cX1_hasAnswer 43 = .ok (.iload_n 3, 1) := by decide +kernel
theorem dX1_hasAnswer_44 : decode cX1_hasAnswer 44 = .ok (.iload 4, 2) := by decide +kernel
theorem dX1_hasAnswer_46 : decode cX1_hasAnswer 46 = .ok (.iload 6, 2) := by decide +kernel
theorem dX1_hasAnswer_48 : decode cX1_hasAnswer 48 = .ok (.iconst 1, 1) := by decide +kernel
theorem dX1_hasAnswer_49 : decode cX1_hasAnswer 49 = .ok (.invokevirtual 56, 3) := by decide +kernel
theorem dX1_hasAnswer_52 : decode cX1_hasAnswer 52 = .ok (.ifCond .eq 5, 3) := by decide +kernel
theorem dX1_hasAnswer_55 : decode cX1_hasAnswer 55 = .ok (.iconst 1, 1) := by decide +kernel
theorem dX1_hasAnswer_56 : decode cX1_hasAnswer 56 = .ok (.ireturn, 1) := by decide +kernel
theorem dX1_hasAnswer_57 : decode cX1_hasAnswer 57 = .ok (.iinc 6 1, 3) := by decide +kernel
theorem dX1_hasAnswer_60 : decode cX1_hasAnswer 60 = .ok (.goto (-26), 3) := by decide +kernel
theorem dX1_hasAnswer_63 : decode cX1_hasAnswer 63 = .ok (.iconst 0, 1) := by decide +kernel
theorem dX1_hasAnswer_64 : decode cX1_hasAnswer 64 = .ok (.ireturn, 1) := by decide +kernel
theorem dX1_canTake_0 : decode cX1_canTake 0 = .ok (.iload_n 1, 1) := by decide +kernel
theorem dX1_canTake_1 : decode cX1_canTake 1 = .ok (.ifCond .gt 13, 3) := by decide +kernel
theorem dX1_canTake_4 : decode cX1_canTake 4 = .ok (.aload_n 0, 1) := by decide +kernel
theorem dX1_canTake_5 : decode cX1_canTake 5 = .ok (.getfield 9, 3) := by decide +kernel
theorem dX1_canTake_8 : decode cX1_canTake 8 = .ok (.getfield 69, 3) := by decide +kernel
theorem dX1_canTake_11 : decode cX1_canTake 11 = .ok (.ifCond .ne 7, 3) := by decide +kernel
theorem dX1_canTake_14 : decode cX1_canTake 14 = .ok (.iconst 1, 1) := by decide +kernel
theorem dX1_canTake_15 : decode cX1_canTake 15 = .ok (.goto 4, 3) := by decide +kernel
theorem dX1_canTake_18 : decode cX1_canTake 18 = .ok (.iconst 0, 1) := by decide +kernel
theorem dX1_canTake_19 : decode cX1_canTake 19 = .ok (.ireturn, 1) := by decide +kernel
theorem dX1_leastTaking_0 : decode cX1_leastTaking 0 = .ok (.aload_n 0, 1) := by decide +kernel
theorem dX1_leastTaking_1 : decode cX1_leastTaking 1 = .ok (.getfield 9, 3) := by decide +kernel
theorem dX1_leastTaking_4 : decode cX1_leastTaking 4 = .ok (.getfield 69, 3) := by decide +kernel
theorem dX1_leastTaking_7 : decode cX1_leastTaking 7 = .ok (.ifCond .ne 9, 3) := by decide +kernel
theorem dX1_leastTaking_10 : decode cX1_leastTaking 10 = .ok (.iload_n 1, 1) := by decide +kernel
theorem dX1_leastTaking_11 : decode cX1_leastTaking 11 = .ok (.iconst 1, 1) := by decide +kernel
theorem dX1_leastTaking_12 : decode cX1_leastTaking 12 = .ok (.iadd, 1) := by decide +kernel
theorem dX1_leastTaking_13 : decode cX1_leastTaking 13 = .ok (.goto 4, 3) := by decide +kernel
theorem dX1_leastTaking_16 : decode cX1_leastTaking 16 = .ok (.iload_n 1, 1) := by decide +kernel
theorem dX1_leastTaking_17 : decode cX1_leastTaking 17 = .ok (.ireturn, 1) := by decide +kernel
theorem dX1_seesTaken_0 : decode cX1_seesTaken 0 = .ok (.aload_n 0, 1) := by decide +kernel
theorem dX1_seesTaken_1 : decode cX1_seesTaken 1 = .ok (.iload_n 1, 1) := by decide +kernel
theorem dX1_seesTaken_2 : decode cX1_seesTaken 2 = .ok (.iconst 1, 1) := by decide +kernel
theorem dX1_seesTaken_3 : decode cX1_seesTaken 3 = .ok (.isub, 1) := by decide +kernel
theorem dX1_seesTaken_4 : decode cX1_seesTaken 4 = .ok (.iload_n 2, 1) := by decide +kernel
theorem dX1_seesTaken_5 : decode cX1_seesTaken 5 = .ok (.iconst 1, 1) := by decide +kernel
theorem dX1_seesTaken_6 : decode cX1_seesTaken 6 = .ok (.isub, 1) := by decide +kernel
theorem dX1_seesTaken_7 : decode cX1_seesTaken 7 = .ok (.iload_n 3, 1) := by decide +kernel
theorem dX1_seesTaken_8 : decode cX1_seesTaken 8 = .ok (.iload 5, 2) := by decide +kernel
theorem dX1_seesTaken_10 : decode cX1_seesTaken 10 = .ok (.isub, 1) := by decide +kernel
theorem dX1_seesTaken_11 : decode cX1_seesTaken 11 = .ok (.iload 4, 2) := by decide +kernel
theorem dX1_seesTaken_13 : decode cX1_seesTaken 13 = .ok (.aload_n 0, 1) := by decide +kernel
theorem dX1_seesTaken_14 : decode cX1_seesTaken 14 = .ok (.getfield 9, 3) := by decide +kernel
theorem dX1_seesTaken_17 : decode cX1_seesTaken 17 = .ok (.iload 5, 2) := by decide +kernel
theorem dX1_seesTaken_19 : decode cX1_seesTaken 19 = .ok (.invokevirtual 72, 3) := by decide +kernel
theorem dX1_seesTaken_22 : decode cX1_seesTaken 22 = .ok (.iadd, 1) := by decide +kernel
theorem dX1_seesTaken_23 : decode cX1_seesTaken 23 = .ok (.iload 6, 2) := by decide +kernel
theorem dX1_seesTaken_25 : decode cX1_seesTaken 25 = .ok (.invokevirtual 34, 3) := by decide +kernel
theorem dX1_seesTaken_28 : decode cX1_seesTaken 28 = .ok (.ireturn, 1) := by decide +kernel
theorem dX1_seesLost_0 : decode cX1_seesLost 0 = .ok (.aload_n 0, 1) := by decide +kernel
theorem dX1_seesLost_1 : decode cX1_seesLost 1 = .ok (.iload_n 1, 1) := by decide +kernel
theorem dX1_seesLost_2 : decode cX1_seesLost 2 = .ok (.iconst 1, 1) := by decide +kernel
theorem dX1_seesLost_3 : decode cX1_seesLost 3 = .ok (.isub, 1) := by decide +kernel
theorem dX1_seesLost_4 : decode cX1_seesLost 4 = .ok (.iload_n 2, 1) := by decide +kernel
theorem dX1_seesLost_5 : decode cX1_seesLost 5 = .ok (.iconst 1, 1) := by decide +kernel
theorem dX1_seesLost_6 : decode cX1_seesLost 6 = .ok (.iadd, 1) := by decide +kernel
theorem dX1_seesLost_7 : decode cX1_seesLost 7 = .ok (.iload_n 3, 1) := by decide +kernel
theorem dX1_seesLost_8 : decode cX1_seesLost 8 = .ok (.aload_n 0, 1) := by decide +kernel
theorem dX1_seesLost_9 : decode cX1_seesLost 9 = .ok (.getfield 9, 3) := by decide +kernel
theorem dX1_seesLost_12 : decode cX1_seesLost 12 = .ok (.iload 5, 2) := by decide +kernel
theorem dX1_seesLost_14 : decode cX1_seesLost 14 = .ok (.invokevirtual 72, 3) := by decide +kernel
theorem dX1_seesLost_17 : decode cX1_seesLost 17 = .ok (.iadd, 1) := by decide +kernel
theorem dX1_seesLost_18 : decode cX1_seesLost 18 = .ok (.iload 4, 2) := by decide +kernel
theorem dX1_seesLost_20 : decode cX1_seesLost 20 = .ok (.iload 5, 2) := by decide +kernel
theorem dX1_seesLost_22 : decode cX1_seesLost 22 = .ok (.isub, 1) := by decide +kernel
theorem dX1_seesLost_23 : decode cX1_seesLost 23 = .ok (.iload 6, 2) := by decide +kernel
theorem dX1_seesLost_25 : decode cX1_seesLost 25 = .ok (.invokevirtual 34, 3) := by decide +kernel
theorem dX1_seesLost_28 : decode cX1_seesLost 28 = .ok (.ireturn, 1) := by decide +kernel
theorem dX2_init_0 : decode cX2_init 0 = .ok (.aload_n 0, 1) := by decide +kernel
theorem dX2_init_1 : decode cX2_init 1 = .ok (.invokespecial 3, 3) := by decide +kernel
theorem dX2_init_4 : decode cX2_init 4 = .ok (.aload_n 0, 1) := by decide +kernel
theorem dX2_init_5 : decode cX2_init 5 = .ok (.iconst 2, 1) := by decide +kernel
theorem dX2_init_6 : decode cX2_init 6 = .ok (.putfield 9, 3) := by decide +kernel
theorem dX2_init_9 : decode cX2_init 9 = .ok (.aload_n 0, 1) := by decide +kernel
theorem dX2_init_10 : decode cX2_init 10 = .ok (.new 15, 3) := by decide +kernel
theorem dX2_init_13 : decode cX2_init 13 = .ok (.dup, 1) := by decide +kernel
theorem dX2_init_14 : decode cX2_init 14 = .ok (.invokespecial 17, 3) := by decide +kernel
theorem dX2_init_17 : decode cX2_init 17 = .ok (.putfield 18, 3) := by decide +kernel
theorem dX2_init_20 : decode cX2_init 20 = .ok (.aload_n 0, 1) := by decide +kernel
theorem dX2_init_21 : decode cX2_init 21 = .ok (.new 15, 3) := by decide +kernel
theorem dX2_init_24 : decode cX2_init 24 = .ok (.dup, 1) := by decide +kernel
theorem dX2_init_25 : decode cX2_init 25 = .ok (.invokespecial 17, 3) := by decide +kernel
theorem dX2_init_28 : decode cX2_init 28 = .ok (.putfield 22, 3) := by decide +kernel
theorem dX2_init_31 : decode cX2_init 31 = .ok (.return_, 1) := by decide +kernel
theorem dX2_copyFrom_0 : decode cX2_copyFrom 0 = .ok (.aload_n 0, 1) := by decide +kernel
theorem dX2_copyFrom_1 : decode cX2_copyFrom 1 = .ok (.aload_n 1, 1) := by decide +kernel
theorem dX2_copyFrom_2 : decode cX2_copyFrom 2 = .ok (.getfield 9, 3) := by decide +kernel
theorem dX2_copyFrom_5 : decode cX2_copyFrom 5 = .ok (.putfield 9, 3) := by decide +kernel
theorem dX2_copyFrom_8 : decode cX2_copyFrom 8 = .ok (.aload_n 0, 1) := by decide +kernel
theorem dX2_copyFrom_9 : decode cX2_copyFrom 9 = .ok (.aload_n 1, 1) := by decide +kernel
theorem dX2_copyFrom_10 : decode cX2_copyFrom 10 = .ok (.getfield 25, 3) := by decide +kernel
theorem dX2_copyFrom_13 : decode cX2_copyFrom 13 = .ok (.putfield 25, 3) := by decide +kernel
theorem dX2_copyFrom_16 : decode cX2_copyFrom 16 = .ok (.aload_n 0, 1) := by decide +kernel
theorem dX2_copyFrom_17 : decode cX2_copyFrom 17 = .ok (.aload_n 1, 1) := by decide +kernel
theorem dX2_copyFrom_18 : decode cX2_copyFrom 18 = .ok (.getfield 28, 3) := by decide +kernel
theorem dX2_copyFrom_21 : decode cX2_copyFrom 21 = .ok (.putfield 28, 3) := by decide +kernel
theorem dX2_copyFrom_24 : decode cX2_copyFrom 24 = .ok (.aload_n 0, 1) := by decide +kernel
theorem dX2_copyFrom_25 : decode cX2_copyFrom 25 = .ok (.aload_n 1, 1) := by decide +kernel
theorem dX2_copyFrom_26 : decode cX2_copyFrom 26 = .ok (.getfield 31, 3) := by decide +kernel
theorem dX2_copyFrom_29 : decode cX2_copyFrom 29 = .ok (.putfield 31, 3) := by decide +kernel
theorem dX2_copyFrom_32 : decode cX2_copyFrom 32 = .ok (.aload_n 0, 1) := by decide +kernel
theorem dX2_copyFrom_33 : decode cX2_copyFrom 33 = .ok (.aload_n 1, 1) := by decide +kernel
theorem dX2_copyFrom_34 : decode cX2_copyFrom 34 = .ok (.getfield 34, 3) := by decide +kernel
theorem dX2_copyFrom_37 : decode cX2_copyFrom 37 = .ok (.putfield 34, 3) := by decide +kernel
theorem dX2_copyFrom_40 : decode cX2_copyFrom 40 = .ok (.aload_n 0, 1) := by decide +kernel
theorem dX2_copyFrom_41 : decode cX2_copyFrom 41 = .ok (.aload_n 1, 1) := by decide +kernel
theorem dX2_copyFrom_42 : decode cX2_copyFrom 42 = .ok (.getfield 37, 3) := by decide +kernel
theorem dX2_copyFrom_45 : decode cX2_copyFrom 45 = .ok (.putfield 37, 3) := by decide +kernel
theorem dX2_copyFrom_48 : decode cX2_copyFrom 48 = .ok (.aload_n 0, 1) := by decide +kernel
theorem dX2_copyFrom_49 : decode cX2_copyFrom 49 = .ok (.aload_n 1, 1) := by decide +kernel
theorem dX2_copyFrom_50 : decode cX2_copyFrom 50 = .ok (.getfield 40, 3) := by decide +kernel
theorem dX2_copyFrom_53 : decode cX2_copyFrom 53 = .ok (.putfield 40, 3) := by decide +kernel
theorem dX2_copyFrom_56 : decode cX2_copyFrom 56 = .ok (.aload_n 0, 1) := by decide +kernel
theorem dX2_copyFrom_57 : decode cX2_copyFrom 57 = .ok (.aload_n 1, 1) := by decide +kernel
theorem dX2_copyFrom_58 : decode cX2_copyFrom 58 = .ok (.getfield 43, 3) := by decide +kernel
theorem dX2_copyFrom_61 : decode cX2_copyFrom 61 = .ok (.putfield 43, 3) := by decide +kernel
theorem dX2_copyFrom_64 : decode cX2_copyFrom 64 = .ok (.aload_n 0, 1) := by decide +kernel
theorem dX2_copyFrom_65 : decode cX2_copyFrom 65 = .ok (.getfield 18, 3) := by decide +kernel
theorem dX2_copyFrom_68 : decode cX2_copyFrom 68 = .ok (.aload_n 1, 1) := by decide +kernel
theorem dX2_copyFrom_69 : decode cX2_copyFrom 69 = .ok (.getfield 18, 3) := by decide +kernel
theorem dX2_copyFrom_72 : decode cX2_copyFrom 72 = .ok (.invokevirtual 46, 3) := by decide +kernel
theorem dX2_copyFrom_75 : decode cX2_copyFrom 75 = .ok (.aload_n 0, 1) := by decide +kernel
theorem dX2_copyFrom_76 : decode cX2_copyFrom 76 = .ok (.getfield 22, 3) := by decide +kernel
theorem dX2_copyFrom_79 : decode cX2_copyFrom 79 = .ok (.aload_n 1, 1) := by decide +kernel
theorem dX2_copyFrom_80 : decode cX2_copyFrom 80 = .ok (.getfield 22, 3) := by decide +kernel
theorem dX2_copyFrom_83 : decode cX2_copyFrom 83 = .ok (.invokevirtual 46, 3) := by decide +kernel
theorem dX2_copyFrom_86 : decode cX2_copyFrom 86 = .ok (.return_, 1) := by decide +kernel
theorem dX2_settingOf_0 : decode cX2_settingOf 0 = .ok (.iload_n 1, 1) := by decide +kernel
theorem dX2_settingOf_1 : decode cX2_settingOf 1 = .ok (.tableswitch 42 0 2 #[27, 32, 37], 27) := by decide +kernel
theorem dX2_settingOf_28 : decode cX2_settingOf 28 = .ok (.aload_n 0, 1) := by decide +kernel
theorem dX2_settingOf_29 : decode cX2_settingOf 29 = .ok (.getfield 9, 3) := by decide +kernel
theorem dX2_settingOf_32 : decode cX2_settingOf 32 = .ok (.ireturn, 1) := by decide +kernel
theorem dX2_settingOf_33 : decode cX2_settingOf 33 = .ok (.aload_n 0, 1) := by decide +kernel
theorem dX2_settingOf_34 : decode cX2_settingOf 34 = .ok (.getfield 25, 3) := by decide +kernel
theorem dX2_settingOf_37 : decode cX2_settingOf 37 = .ok (.ireturn, 1) := by decide +kernel
theorem dX2_settingOf_38 : decode cX2_settingOf 38 = .ok (.aload_n 0, 1) := by decide +kernel
theorem dX2_settingOf_39 : decode cX2_settingOf 39 = .ok (.getfield 28, 3) := by decide +kernel
theorem dX2_settingOf_42 : decode cX2_settingOf 42 = .ok (.ireturn, 1) := by decide +kernel
theorem dX2_settingOf_43 : decode cX2_settingOf 43 = .ok (.aload_n 0, 1) := by decide +kernel
theorem dX2_settingOf_44 : decode cX2_settingOf 44 = .ok (.getfield 31, 3) := by decide +kernel
theorem dX2_settingOf_47 : decode cX2_settingOf 47 = .ok (.ireturn, 1) := by decide +kernel
theorem dX2_changeSetting_0 : decode cX2_changeSetting 0 = .ok (.iload_n 1, 1) := by decide +kernel
theorem dX2_changeSetting_1 : decode cX2_changeSetting 1 = .ok (.tableswitch 51 0 2 #[27, 35, 43], 27) := by decide +kernel
theorem dX2_changeSetting_28 : decode cX2_changeSetting 28 = .ok (.aload_n 0, 1) := by decide +kernel
theorem dX2_changeSetting_29 : decode cX2_changeSetting 29 = .ok (.iload_n 2, 1) := by decide +kernel
theorem dX2_changeSetting_30 : decode cX2_changeSetting 30 = .ok (.putfield 9, 3) := by decide +kernel
theorem dX2_changeSetting_33 : decode cX2_changeSetting 33 = .ok (.goto 24, 3) := by decide +kernel
theorem dX2_changeSetting_36 : decode cX2_changeSetting 36 = .ok (.aload_n 0, 1) := by decide +kernel
theorem dX2_changeSetting_37 : decode cX2_changeSetting 37 = .ok (.iload_n 2, 1) := by decide +kernel
theorem dX2_changeSetting_38 : decode cX2_changeSetting 38 = .ok (.putfield 25, 3) := by decide +kernel
theorem dX2_changeSetting_41 : decode cX2_changeSetting 41 = .ok (.goto 16, 3) := by decide +kernel
theorem dX2_changeSetting_44 : decode cX2_changeSetting 44 = .ok (.aload_n 0, 1) := by decide +kernel
theorem dX2_changeSetting_45 : decode cX2_changeSetting 45 = .ok (.iload_n 2, 1) := by decide +kernel
theorem dX2_changeSetting_46 : decode cX2_changeSetting 46 = .ok (.putfield 28, 3) := by decide +kernel
theorem dX2_changeSetting_49 : decode cX2_changeSetting 49 = .ok (.goto 8, 3) := by decide +kernel
theorem dX2_changeSetting_52 : decode cX2_changeSetting 52 = .ok (.aload_n 0, 1) := by decide +kernel
theorem dX2_changeSetting_53 : decode cX2_changeSetting 53 = .ok (.iload_n 2, 1) := by decide +kernel
theorem dX2_changeSetting_54 : decode cX2_changeSetting 54 = .ok (.putfield 31, 3) := by decide +kernel
theorem dX2_changeSetting_57 : decode cX2_changeSetting 57 = .ok (.return_, 1) := by decide +kernel
theorem dX2_startAnew_0 : decode cX2_startAnew 0 = .ok (.aload_n 0, 1) := by decide +kernel
theorem dX2_startAnew_1 : decode cX2_startAnew 1 = .ok (.iconst 0, 1) := by decide +kernel
theorem dX2_startAnew_2 : decode cX2_startAnew 2 = .ok (.putfield 34, 3) := by decide +kernel
theorem dX2_startAnew_5 : decode cX2_startAnew 5 = .ok (.aload_n 0, 1) := by decide +kernel
theorem dX2_startAnew_6 : decode cX2_startAnew 6 = .ok (.iconst 0, 1) := by decide +kernel
theorem dX2_startAnew_7 : decode cX2_startAnew 7 = .ok (.putfield 37, 3) := by decide +kernel
theorem dX2_startAnew_10 : decode cX2_startAnew 10 = .ok (.aload_n 0, 1) := by decide +kernel
theorem dX2_startAnew_11 : decode cX2_startAnew 11 = .ok (.iconst 0, 1) := by decide +kernel
theorem dX2_startAnew_12 : decode cX2_startAnew 12 = .ok (.putfield 40, 3) := by decide +kernel
theorem dX2_startAnew_15 : decode cX2_startAnew 15 = .ok (.aload_n 0, 1) := by decide +kernel
theorem dX2_startAnew_16 : decode cX2_startAnew 16 = .ok (.iconst 0, 1) := by decide +kernel
theorem dX2_startAnew_17 : decode cX2_startAnew 17 = .ok (.putfield 43, 3) := by decide +kernel
theorem dX2_startAnew_20 : decode cX2_startAnew 20 = .ok (.aload_n 0, 1) := by decide +kernel
theorem dX2_startAnew_21 : decode cX2_startAnew 21 = .ok (.getfield 18, 3) := by decide +kernel
theorem dX2_startAnew_24 : decode cX2_startAnew 24 = .ok (.invokevirtual 50, 3) := by decide +kernel
theorem dX2_startAnew_27 : decode cX2_startAnew 27 = .ok (.aload_n 0, 1) := by decide +kernel
theorem dX2_startAnew_28 : decode cX2_startAnew 28 = .ok (.getfield 22, 3) := by decide +kernel
theorem dX2_startAnew_31 : decode cX2_startAnew 31 = .ok (.invokevirtual 50, 3) := by decide +kernel
theorem dX2_startAnew_34 : decode cX2_startAnew 34 = .ok (.return_, 1) := by decide +kernel
theorem dX2_sideOf_0 : decode cX2_sideOf 0 = .ok (.iload_n 1, 1) := by decide +kernel
theorem dX2_sideOf_1 : decode cX2_sideOf 1 = .ok (.ifCond .ne 10, 3) := by decide +kernel
theorem dX2_sideOf_4 : decode cX2_sideOf 4 = .ok (.aload_n 0, 1) := by decide +kernel
theorem dX2_sideOf_5 : decode cX2_sideOf 5 = .ok (.getfield 18, 3) := by decide +kernel
theorem dX2_sideOf_8 : decode cX2_sideOf 8 = .ok (.goto 7, 3) := by decide +kernel
theorem dX2_sideOf_11 : decode cX2_sideOf 11 = .ok (.aload_n 0, 1) := by decide +kernel
theorem dX2_sideOf_12 : decode cX2_sideOf 12 = .ok (.getfield 22, 3) := by decide +kernel
theorem dX2_sideOf_15 : decode cX2_sideOf 15 = .ok (.areturn, 1) := by decide +kernel
theorem dX2_winner_0 : decode cX2_winner 0 = .ok (.aload_n 0, 1) := by decide +kernel
theorem dX2_winner_1 : decode cX2_winner 1 = .ok (.getfield 34, 3) := by decide +kernel
theorem dX2_winner_4 : decode cX2_winner 4 = .ok (.aload_n 0, 1) := by decide +kernel
theorem dX2_winner_5 : decode cX2_winner 5 = .ok (.getfield 9, 3) := by decide +kernel
theorem dX2_winner_8 : decode cX2_winner 8 = .ok (.if_icmp .lt 5, 3) := by decide +kernel
theorem dX2_winner_11 : decode cX2_winner 11 = .ok (.iconst 0, 1) := by decide +kernel
theorem dX2_winner_12 : decode cX2_winner 12 = .ok (.ireturn, 1) := by decide +kernel
theorem dX2_winner_13 : decode cX2_winner 13 = .ok (.aload_n 0, 1) := by decide +kernel
theorem dX2_winner_14 : decode cX2_winner 14 = .ok (.getfield 34, 3) := by decide +kernel
theorem dX2_winner_17 : decode cX2_winner 17 = .ok (.aload_n 0, 1) := by decide +kernel
theorem dX2_winner_18 : decode cX2_winner 18 = .ok (.getfield 9, 3) := by decide +kernel
theorem dX2_winner_21 : decode cX2_winner 21 = .ok (.ineg, 1) := by decide +kernel
theorem dX2_winner_22 : decode cX2_winner 22 = .ok (.if_icmp .gt 7, 3) := by decide +kernel
theorem dX2_winner_25 : decode cX2_winner 25 = .ok (.iconst 1, 1) := by decide +kernel
theorem dX2_winner_26 : decode cX2_winner 26 = .ok (.goto 6, 3) := by decide +kernel
theorem dX2_winner_29 : decode cX2_winner 29 = .ok (.sipush (-1006), 3) := by decide +kernel
theorem dX2_winner_32 : decode cX2_winner 32 = .ok (.ireturn, 1) := by decide +kernel
theorem dX2_isOver_0 : decode cX2_isOver 0 = .ok (.aload_n 0, 1) := by decide +kernel
theorem dX2_isOver_1 : decode cX2_isOver 1 = .ok (.invokevirtual 53, 3) := by decide +kernel
theorem dX2_isOver_4 : decode cX2_isOver 4 = .ok (.sipush (-1006), 3) := by decide +kernel
theorem dX2_isOver_7 : decode cX2_isOver 7 = .ok (.if_icmp .eq 7, 3) := by decide +kernel
theorem dX2_isOver_10 : decode cX2_isOver 10 = .ok (.iconst 1, 1) := by decide +kernel
theorem dX2_isOver_11 : decode cX2_isOver 11 = .ok (.goto 4, 3) := by decide +kernel
theorem dX2_isOver_14 : decode cX2_isOver 14 = .ok (.iconst 0, 1) := by decide +kernel
theorem dX2_isOver_15 : decode cX2_isOver 15 = .ok (.ireturn, 1) := by decide +kernel
theorem dX2_mostOf_0 : decode cX2_mostOf 0 = .ok (.aload_n 0, 1) := by decide +kernel
theorem dX2_mostOf_1 : decode cX2_mostOf 1 = .ok (.iload_n 1, 1) := by decide +kernel
theorem dX2_mostOf_2 : decode cX2_mostOf 2 = .ok (.invokevirtual 57, 3) := by decide +kernel
theorem dX2_mostOf_5 : decode cX2_mostOf 5 = .ok (.getfield 61, 3) := by decide +kernel
theorem dX2_mostOf_8 : decode cX2_mostOf 8 = .ok (.aload_n 0, 1) := by decide +kernel
theorem dX2_mostOf_9 : decode cX2_mostOf 9 = .ok (.getfield 25, 3) := by decide +kernel
theorem dX2_mostOf_12 : decode cX2_mostOf 12 = .ok (.iadd, 1) := by decide +kernel
theorem dX2_mostOf_13 : decode cX2_mostOf 13 = .ok (.ireturn, 1) := by decide +kernel
theorem dX2_toWin_0 : decode cX2_toWin 0 = .ok (.iload_n 1, 1) := by decide +kernel
theorem dX2_toWin_1 : decode cX2_toWin 1 = .ok (.ifCond .ne 15, 3) := by decide +kernel
theorem dX2_toWin_4 : decode cX2_toWin 4 = .ok (.aload_n 0, 1) := by decide +kernel
theorem dX2_toWin_5 : decode cX2_toWin 5 = .ok (.getfield 9, 3) := by decide +kernel
theorem dX2_toWin_8 : decode cX2_toWin 8 = .ok (.aload_n 0, 1) := by decide +kernel
theorem dX2_toWin_9 : decode cX2_toWin 9 = .ok (.getfield 34, 3) := by decide +kernel
theorem dX2_toWin_12 : decode cX2_toWin 12 = .ok (.isub, 1) := by decide +kernel
theorem dX2_toWin_13 : decode cX2_toWin 13 = .ok (.goto 12, 3) := by decide +kernel
theorem dX2_toWin_16 : decode cX2_toWin 16 = .ok (.aload_n 0, 1) := by decide +kernel
theorem dX2_toWin_17 : decode cX2_toWin 17 = .ok (.getfield 9, 3) := by decide +kernel
theorem dX2_toWin_20 : decode cX2_toWin 20 = .ok (.aload_n 0, 1) := by decide +kernel
theorem dX2_toWin_21 : decode cX2_toWin 21 = .ok (.getfield 34, 3) := by decide +kernel
theorem dX2_toWin_24 : decode cX2_toWin 24 = .ok (.iadd, 1) := by decide +kernel
theorem dX2_toWin_25 : decode cX2_toWin 25 = .ok (.ireturn, 1) := by decide +kernel
theorem dX2_gainOf_0 : decode cX2_gainOf 0 = .ok (.aload_n 0, 1) := by decide +kernel
theorem dX2_gainOf_1 : decode cX2_gainOf 1 = .ok (.getfield 28, 3) := by decide +kernel
theorem dX2_gainOf_4 : decode cX2_gainOf 4 = .ok (.ifCond .ne 7, 3) := by decide +kernel
theorem dX2_gainOf_7 : decode cX2_gainOf 7 = .ok (.iload_n 1, 1) := by decide +kernel
theorem dX2_gainOf_8 : decode cX2_gainOf 8 = .ok (.goto 4, 3) := by decide +kernel
theorem dX2_gainOf_11 : decode cX2_gainOf 11 = .ok (.iconst 0, 1) := by decide +kernel
theorem dX2_gainOf_12 : decode cX2_gainOf 12 = .ok (.ireturn, 1) := by decide +kernel
theorem dX2_takerOf_0 : decode cX2_takerOf 0 = .ok (.iload_n 1, 1) := by decide +kernel
theorem dX2_takerOf_1 : decode cX2_takerOf 1 = .ok (.iload_n 2, 1) := by decide +kernel
theorem dX2_takerOf_2 : decode cX2_takerOf 2 = .ok (.if_icmp .gt 15, 3) := by decide +kernel
theorem dX2_takerOf_5 : decode cX2_takerOf 5 = .ok (.iload_n 1, 1) := by decide +kernel
theorem dX2_takerOf_6 : decode cX2_takerOf 6 = .ok (.iload_n 2, 1) := by decide +kernel
theorem dX2_takerOf_7 : decode cX2_takerOf 7 = .ok (.if_icmp .ne 14, 3) := by decide +kernel
theorem dX2_takerOf_10 : decode cX2_takerOf 10 = .ok (.aload_n 0, 1) := by decide +kernel
theorem dX2_takerOf_11 : decode cX2_takerOf 11 = .ok (.getfield 31, 3) := by decide +kernel
theorem dX2_takerOf_14 : decode cX2_takerOf 14 = .ok (.ifCond .ne 7, 3) := by decide +kernel
theorem dX2_takerOf_17 : decode cX2_takerOf 17 = .ok (.iconst 1, 1) := by decide +kernel
theorem dX2_takerOf_18 : decode cX2_takerOf 18 = .ok (.goto 4, 3) := by decide +kernel
theorem dX2_takerOf_21 : decode cX2_takerOf 21 = .ok (.iconst 0, 1) := by decide +kernel
theorem dX2_takerOf_22 : decode cX2_takerOf 22 = .ok (.istore_n 3, 1) := by decide +kernel
theorem dX2_takerOf_23 : decode cX2_takerOf 23 = .ok (.iload_n 3, 1) := by decide +kernel
theorem dX2_takerOf_24 : decode cX2_takerOf 24 = .ok (.ifCond .eq 10, 3) := by decide +kernel
theorem dX2_takerOf_27 : decode cX2_takerOf 27 = .ok (.aload_n 0, 1) := by decide +kernel
theorem dX2_takerOf_28 : decode cX2_takerOf 28 = .ok (.getfield 37, 3) := by decide +kernel
theorem dX2_takerOf_31 : decode cX2_takerOf 31 = .ok (.goto 9, 3) := by decide +kernel
theorem dX2_takerOf_34 : decode cX2_takerOf 34 = .ok (.iconst 1, 1) := by decide +kernel
theorem dX2_takerOf_35 : decode cX2_takerOf 35 = .ok (.aload_n 0, 1) := by decide +kernel
theorem dX2_takerOf_36 : decode cX2_takerOf 36 = .ok (.getfield 37, 3) := by decide +kernel
theorem dX2_takerOf_39 : decode cX2_takerOf 39 = .ok (.isub, 1) := by decide +kernel
theorem dX2_takerOf_40 : decode cX2_takerOf 40 = .ok (.ireturn, 1) := by decide +kernel
theorem dX2_allows_0 : decode cX2_allows 0 = .ok (.aload_n 0, 1) := by decide +kernel
theorem dX2_allows_1 : decode cX2_allows 1 = .ok (.invokevirtual 64, 3) := by decide +kernel
theorem dX2_allows_4 : decode cX2_allows 4 = .ok (.ifCond .ne 33, 3) := by decide +kernel
theorem dX2_allows_7 : decode cX2_allows 7 = .ok (.iload_n 1, 1) := by decide +kernel
theorem dX2_allows_8 : decode cX2_allows 8 = .ok (.aload_n 0, 1) := by decide +kernel
theorem dX2_allows_9 : decode cX2_allows 9 = .ok (.aload_n 0, 1) := by decide +kernel
theorem dX2_allows_10 : decode cX2_allows 10 = .ok (.getfield 37, 3) := by decide +kernel
theorem dX2_allows_13 : decode cX2_allows 13 = .ok (.invokevirtual 68, 3) := by decide +kernel
theorem dX2_allows_16 : decode cX2_allows 16 = .ok (.if_icmp .gt 21, 3) := by decide +kernel
theorem dX2_allows_19 : decode cX2_allows 19 = .ok (.iload_n 2, 1) := by decide +kernel
theorem dX2_allows_20 : decode cX2_allows 20 = .ok (.aload_n 0, 1) := by decide +kernel
theorem dX2_allows_21 : decode cX2_allows 21 = .ok (.iconst 1, 1) := by decide +kernel
theorem dX2_allows_22 : decode cX2_allows 22 = .ok (.aload_n 0, 1) := by decide +kernel
theorem dX2_allows_23 : decode cX2_allows 23 = .ok (.getfield 37, 3) := by decide +kernel
theorem dX2_allows_26 : decode cX2_allows 26 = .ok (.isub, 1) := by decide +kernel
theorem dX2_allows_27 : decode cX2_allows 27 = .ok (.invokevirtual 68, 3) := by decide +kernel
theorem dX2_allows_30 : decode cX2_allows 30 = .ok (.if_icmp .gt 7, 3) := by decide +kernel
theorem dX2_allows_33 : decode cX2_allows 33 = .ok (.iconst 1, 1) := by decide +kernel
theorem dX2_allows_34 : decode cX2_allows 34 = .ok (.goto 4, 3) := by decide +kernel
theorem dX2_allows_37 : decode cX2_allows 37 = .ok (.iconst 0, 1) := by decide +kernel
theorem dX2_allows_38 : decode cX2_allows 38 = .ok (.ireturn, 1) := by decide +kernel
theorem dX2_playRound_0 : decode cX2_playRound 0 = .ok (.aload_n 0, 1) := by decide +kernel
theorem dX2_playRound_1 : decode cX2_playRound 1 = .ok (.iload_n 1, 1) := by decide +kernel
theorem dX2_playRound_2 : decode cX2_playRound 2 = .ok (.iload_n 2, 1) := by decide +kernel
theorem dX2_playRound_3 : decode cX2_playRound 3 = .ok (.invokevirtual 72, 3) := by decide +kernel
theorem dX2_playRound_6 : decode cX2_playRound 6 = .ok (.istore_n 3, 1) := by decide +kernel
theorem dX2_playRound_7 : decode cX2_playRound 7 = .ok (.iload_n 3, 1) := by decide +kernel
theorem dX2_playRound_8 : decode cX2_playRound 8 = .ok (.aload_n 0, 1) := by decide +kernel
theorem dX2_playRound_9 : decode cX2_playRound 9 = .ok (.getfield 37, 3) := by decide +kernel
theorem dX2_playRound_12 : decode cX2_playRound 12 = .ok (.if_icmp .ne 7, 3) := by decide +kernel
theorem dX2_playRound_15 : decode cX2_playRound 15 = .ok (.iload_n 1, 1) := by decide +kernel
theorem dX2_playRound_16 : decode cX2_playRound 16 = .ok (.goto 4, 3) := by decide +kernel
theorem dX2_playRound_19 : decode cX2_playRound 19 = .ok (.iload_n 2, 1) := by decide +kernel
theorem dX2_playRound_20 : decode cX2_playRound 20 = .ok (.istore 4, 2) := by decide +kernel
theorem dX2_playRound_22 : decode cX2_playRound 22 = .ok (.aload_n 0, 1) := by decide +kernel
theorem dX2_playRound_23 : decode cX2_playRound 23 = .ok (.iload_n 3, 1) := by decide +kernel
theorem dX2_playRound_24 : decode cX2_playRound 24 = .ok (.invokevirtual 57, 3) := by decide +kernel
theorem dX2_playRound_27 : decode cX2_playRound 27 = .ok (.astore 5, 2) := by decide +kernel
theorem dX2_playRound_29 : decode cX2_playRound 29 = .ok (.aload 5, 2) := by decide +kernel
theorem dX2_playRound_31 : decode cX2_playRound 31 = .ok (.dup, 1) := by decide +kernel
theorem dX2_playRound_32 : decode cX2_playRound 32 = .ok (.getfield 61, 3) := by decide +kernel
theorem dX2_playRound_35 : decode cX2_playRound 35 = .ok (.iload 4, 2) := by decide +kernel
theorem dX2_playRound_37 : decode cX2_playRound 37 = .ok (.isub, 1) := by decide +kernel
theorem dX2_playRound_38 : decode cX2_playRound 38 = .ok (.putfield 61, 3) := by decide +kernel
theorem dX2_playRound_41 : decode cX2_playRound 41 = .ok (.aload 5, 2) := by decide +kernel
theorem dX2_playRound_43 : decode cX2_playRound 43 = .ok (.dup, 1) := by decide +kernel
theorem dX2_playRound_44 : decode cX2_playRound 44 = .ok (.getfield 76, 3) := by decide +kernel
theorem dX2_playRound_47 : decode cX2_playRound 47 = .ok (.iload 4, 2) := by decide +kernel
theorem dX2_playRound_49 : decode cX2_playRound 49 = .ok (.iadd, 1) := by decide +kernel
theorem dX2_playRound_50 : decode cX2_playRound 50 = .ok (.putfield 76, 3) := by decide +kernel
theorem dX2_playRound_53 : decode cX2_playRound 53 = .ok (.aload 5, 2) := by decide +kernel
theorem dX2_playRound_55 : decode cX2_playRound 55 = .ok (.dup, 1) := by decide +kernel
theorem dX2_playRound_56 : decode cX2_playRound 56 = .ok (.getfield 79, 3) := by decide +kernel
theorem dX2_playRound_59 : decode cX2_playRound 59 = .ok (.iconst 1, 1) := by decide +kernel
theorem dX2_playRound_60 : decode cX2_playRound 60 = .ok (.iadd, 1) := by decide +kernel
theorem dX2_playRound_61 : decode cX2_playRound 61 = .ok (.putfield 79, 3) := by decide +kernel
theorem dX2_playRound_64 : decode cX2_playRound 64 = .ok (.aload_n 0, 1) := by decide +kernel
theorem dX2_playRound_65 : decode cX2_playRound 65 = .ok (.iload 4, 2) := by decide +kernel
theorem dX2_playRound_67 : decode cX2_playRound 67 = .ok (.invokevirtual 82, 3) := by decide +kernel
theorem dX2_playRound_70 : decode cX2_playRound 70 = .ok (.istore 6, 2) := by decide +kernel
theorem dX2_playRound_72 : decode cX2_playRound 72 = .ok (.aload_n 0, 1) := by decide +kernel
theorem dX2_playRound_73 : decode cX2_playRound 73 = .ok (.iconst 1, 1) := by decide +kernel
theorem dX2_playRound_74 : decode cX2_playRound 74 = .ok (.iload_n 3, 1) := by decide +kernel
theorem dX2_playRound_75 : decode cX2_playRound 75 = .ok (.isub, 1) := by decide +kernel
theorem dX2_playRound_76 : decode cX2_playRound 76 = .ok (.invokevirtual 57, 3) := by decide +kernel
theorem dX2_playRound_79 : decode cX2_playRound 79 = .ok (.dup, 1) := by decide +kernel
theorem dX2_playRound_80 : decode cX2_playRound 80 = .ok (.getfield 61, 3) := by decide +kernel
theorem dX2_playRound_83 : decode cX2_playRound 83 = .ok (.iload 6, 2) := by decide +kernel
theorem dX2_playRound_85 : decode cX2_playRound 85 = .ok (.iadd, 1) := by decide +kernel
theorem dX2_playRound_86 : decode cX2_playRound 86 = .ok (.putfield 61, 3) := by decide +kernel
theorem dX2_playRound_89 : decode cX2_playRound 89 = .ok (.aload_n 0, 1) := by decide +kernel
theorem dX2_playRound_90 : decode cX2_playRound 90 = .ok (.dup, 1) := by decide +kernel
theorem dX2_playRound_91 : decode cX2_playRound 91 = .ok (.getfield 43, 3) := by decide +kernel
theorem dX2_playRound_94 : decode cX2_playRound 94 = .ok (.iload 4, 2) := by decide +kernel
theorem dX2_playRound_96 : decode cX2_playRound 96 = .ok (.iload 6, 2) := by decide +kernel
theorem dX2_playRound_98 : decode cX2_playRound 98 = .ok (.isub, 1) := by decide +kernel
theorem dX2_playRound_99 : decode cX2_playRound 99 = .ok (.iadd, 1) := by decide +kernel
theorem dX2_playRound_100 : decode cX2_playRound 100 = .ok (.putfield 43, 3) := by decide +kernel
theorem dX2_playRound_103 : decode cX2_playRound 103 = .ok (.aload_n 0, 1) := by decide +kernel
theorem dX2_playRound_104 : decode cX2_playRound 104 = .ok (.dup, 1) := by decide +kernel
theorem dX2_playRound_105 : decode cX2_playRound 105 = .ok (.getfield 34, 3) := by decide +kernel
theorem dX2_playRound_108 : decode cX2_playRound 108 = .ok (.iload_n 3, 1) := by decide +kernel
theorem dX2_playRound_109 : decode cX2_playRound 109 = .ok (.ifCond .ne 7, 3) := by decide +kernel
theorem dX2_playRound_112 : decode cX2_playRound 112 = .ok (.iconst 1, 1) := by decide +kernel
theorem dX2_playRound_113 : decode cX2_playRound 113 = .ok (.goto 4, 3) := by decide +kernel
theorem dX2_playRound_116 : decode cX2_playRound 116 = .ok (.iconst (-1), 1) := by decide +kernel
theorem dX2_playRound_117 : decode cX2_playRound 117 = .ok (.iadd, 1) := by decide +kernel
theorem dX2_playRound_118 : decode cX2_playRound 118 = .ok (.putfield 34, 3) := by decide +kernel
theorem dX2_playRound_121 : decode cX2_playRound 121 = .ok (.aload_n 0, 1) := by decide +kernel
theorem dX2_playRound_122 : decode cX2_playRound 122 = .ok (.iconst 1, 1) := by decide +kernel
theorem dX2_playRound_123 : decode cX2_playRound 123 = .ok (.aload_n 0, 1) := by decide +kernel
theorem dX2_playRound_124 : decode cX2_playRound 124 = .ok (.getfield 37, 3) := by decide +kernel
theorem dX2_playRound_127 : decode cX2_playRound 127 = .ok (.isub, 1) := by decide +kernel
theorem dX2_playRound_128 : decode cX2_playRound 128 = .ok (.putfield 37, 3) := by decide +kernel
theorem dX2_playRound_131 : decode cX2_playRound 131 = .ok (.aload_n 0, 1) := by decide +kernel
theorem dX2_playRound_132 : decode cX2_playRound 132 = .ok (.dup, 1) := by decide +kernel
theorem dX2_playRound_133 : decode cX2_playRound 133 = .ok (.getfield 40, 3) := by decide +kernel
theorem dX2_playRound_136 : decode cX2_playRound 136 = .ok (.iconst 1, 1) := by decide +kernel
theorem dX2_playRound_137 : decode cX2_playRound 137 = .ok (.iadd, 1) := by decide +kernel
theorem dX2_playRound_138 : decode cX2_playRound 138 = .ok (.putfield 40, 3) := by decide +kernel
theorem dX2_playRound_141 : decode cX2_playRound 141 = .ok (.aload_n 0, 1) := by decide +kernel
theorem dX2_playRound_142 : decode cX2_playRound 142 = .ok (.invokevirtual 64, 3) := by decide +kernel
theorem dX2_playRound_145 : decode cX2_playRound 145 = .ok (.ifCond .eq 14, 3) := by decide +kernel
theorem dX2_playRound_148 : decode cX2_playRound 148 = .ok (.aload 5, 2) := by decide +kernel
theorem dX2_playRound_150 : decode cX2_playRound 150 = .ok (.dup, 1) := by decide +kernel
theorem dX2_playRound_151 : decode cX2_playRound 151 = .ok (.getfield 85, 3) := by decide +kernel
theorem dX2_playRound_154 : decode cX2_playRound 154 = .ok (.iconst 1, 1) := by decide +kernel
theorem dX2_playRound_155 : decode cX2_playRound 155 = .ok (.iadd, 1) := by decide +kernel
theorem dX2_playRound_156 : decode cX2_playRound 156 = .ok (.putfield 85, 3) := by decide +kernel
theorem dX2_playRound_159 : decode cX2_playRound 159 = .ok (.iload_n 3, 1) := by decide +kernel
theorem dX2_playRound_160 : decode cX2_playRound 160 = .ok (.ireturn, 1) := by decide +kernel
theorem dX3_init_0 : decode cX3_init 0 = .ok (.aload_n 0, 1) := by decide +kernel
theorem dX3_init_1 : decode cX3_init 1 = .ok (.invokespecial 3, 3) := by decide +kernel
theorem dX3_init_4 : decode cX3_init 4 = .ok (.aload_n 0, 1) := by decide +kernel
theorem dX3_init_5 : decode cX3_init 5 = .ok (.bipush 6, 2) := by decide +kernel
theorem dX3_init_7 : decode cX3_init 7 = .ok (.anewarray 9, 3) := by decide +kernel
theorem dX3_init_10 : decode cX3_init 10 = .ok (.putfield 11, 3) := by decide +kernel
theorem dX3_init_13 : decode cX3_init 13 = .ok (.return_, 1) := by decide +kernel
theorem dX3_keepState_0 : decode cX3_keepState 0 = .ok (.aload_n 0, 1) := by decide +kernel
theorem dX3_keepState_1 : decode cX3_keepState 1 = .ok (.getfield 17, 3) := by decide +kernel
theorem dX3_keepState_4 : decode cX3_keepState 4 = .ok (.aload_n 0, 1) := by decide +kernel
theorem dX3_keepState_5 : decode cX3_keepState 5 = .ok (.getfield 11, 3) := by decide +kernel
theorem dX3_keepState_8 : decode cX3_keepState 8 = .ok (.arraylength, 1) := by decide +kernel
theorem dX3_keepState_9 : decode cX3_keepState 9 = .ok (.if_icmp .lt 7, 3) := by decide +kernel
theorem dX3_keepState_12 : decode cX3_keepState 12 = .ok (.aload_n 0, 1) := by decide +kernel
theorem dX3_keepState_13 : decode cX3_keepState 13 = .ok (.invokevirtual 21, 3) := by decide +kernel
theorem dX3_keepState_16 : decode cX3_keepState 16 = .ok (.aload_n 0, 1) := by decide +kernel
theorem dX3_keepState_17 : decode cX3_keepState 17 = .ok (.getfield 17, 3) := by decide +kernel
theorem dX3_keepState_20 : decode cX3_keepState 20 = .ok (.ifCond .lt 66, 3) := by decide +kernel
theorem dX3_keepState_23 : decode cX3_keepState 23 = .ok (.aload_n 0, 1) := by decide +kernel
theorem dX3_keepState_24 : decode cX3_keepState 24 = .ok (.getfield 17, 3) := by decide +kernel
theorem dX3_keepState_27 : decode cX3_keepState 27 = .ok (.aload_n 0, 1) := by decide +kernel
theorem dX3_keepState_28 : decode cX3_keepState 28 = .ok (.getfield 11, 3) := by decide +kernel
theorem dX3_keepState_31 : decode cX3_keepState 31 = .ok (.arraylength, 1) := by decide +kernel
theorem dX3_keepState_32 : decode cX3_keepState 32 = .ok (.if_icmp .ge 54, 3) := by decide +kernel
theorem dX3_keepState_35 : decode cX3_keepState 35 = .ok (.aload_n 0, 1) := by decide +kernel
theorem dX3_keepState_36 : decode cX3_keepState 36 = .ok (.getfield 11, 3) := by decide +kernel
theorem dX3_keepState_39 : decode cX3_keepState 39 = .ok (.aload_n 0, 1) := by decide +kernel
theorem dX3_keepState_40 : decode cX3_keepState 40 = .ok (.getfield 17, 3) := by decide +kernel
theorem dX3_keepState_43 : decode cX3_keepState 43 = .ok (.aaload, 1) := by decide +kernel
theorem dX3_keepState_44 : decode cX3_keepState 44 = .ok (.ifnonnull 19, 3) := by decide +kernel
theorem dX3_keepState_47 : decode cX3_keepState 47 = .ok (.aload_n 0, 1) := by decide +kernel
theorem dX3_keepState_48 : decode cX3_keepState 48 = .ok (.getfield 11, 3) := by decide +kernel
theorem dX3_keepState_51 : decode cX3_keepState 51 = .ok (.aload_n 0, 1) := by decide +kernel
theorem dX3_keepState_52 : decode cX3_keepState 52 = .ok (.getfield 17, 3) := by decide +kernel
theorem dX3_keepState_55 : decode cX3_keepState 55 = .ok (.new 9, 3) := by decide +kernel
theorem dX3_keepState_58 : decode cX3_keepState 58 = .ok (.dup, 1) := by decide +kernel
theorem dX3_keepState_59 : decode cX3_keepState 59 = .ok (.invokespecial 24, 3) := by decide +kernel
theorem dX3_keepState_62 : decode cX3_keepState 62 = .ok (.aastore, 1) := by decide +kernel
theorem dX3_keepState_63 : decode cX3_keepState 63 = .ok (.aload_n 0, 1) := by decide +kernel
theorem dX3_keepState_64 : decode cX3_keepState 64 = .ok (.getfield 11, 3) := by decide +kernel
theorem dX3_keepState_67 : decode cX3_keepState 67 = .ok (.aload_n 0, 1) := by decide +kernel
theorem dX3_keepState_68 : decode cX3_keepState 68 = .ok (.getfield 17, 3) := by decide +kernel
theorem dX3_keepState_71 : decode cX3_keepState 71 = .ok (.aaload, 1) := by decide +kernel
theorem dX3_keepState_72 : decode cX3_keepState 72 = .ok (.aload_n 1, 1) := by decide +kernel
theorem dX3_keepState_73 : decode cX3_keepState 73 = .ok (.invokevirtual 25, 3) := by decide +kernel
theorem dX3_keepState_76 : decode cX3_keepState 76 = .ok (.aload_n 0, 1) := by decide +kernel
theorem dX3_keepState_77 : decode cX3_keepState 77 = .ok (.dup, 1) := by decide +kernel
theorem dX3_keepState_78 : decode cX3_keepState 78 = .ok (.getfield 17, 3) := by decide +kernel
theorem dX3_keepState_81 : decode cX3_keepState 81 = .ok (.iconst 1, 1) := by decide +kernel
theorem dX3_keepState_82 : decode cX3_keepState 82 = .ok (.iadd, 1) := by decide +kernel
theorem dX3_keepState_83 : decode cX3_keepState 83 = .ok (.putfield 17, 3) := by decide +kernel
theorem dX3_keepState_86 : decode cX3_keepState 86 = .ok (.return_, 1) := by decide +kernel
theorem dX3_dropOldest_0 : decode cX3_dropOldest 0 = .ok (.aload_n 0, 1) := by decide +kernel
theorem dX3_dropOldest_1 : decode cX3_dropOldest 1 = .ok (.getfield 11, 3) := by decide +kernel
theorem dX3_dropOldest_4 : decode cX3_dropOldest 4 = .ok (.iconst 0, 1) := by decide +kernel
theorem dX3_dropOldest_5 : decode cX3_dropOldest 5 = .ok (.aaload, 1) := by decide +kernel
theorem dX3_dropOldest_6 : decode cX3_dropOldest 6 = .ok (.astore_n 1, 1) := by decide +kernel
theorem dX3_dropOldest_7 : decode cX3_dropOldest 7 = .ok (.iconst 1, 1) := by decide +kernel
theorem dX3_dropOldest_8 : decode cX3_dropOldest 8 = .ok (.istore_n 2, 1) := by decide +kernel
theorem dX3_dropOldest_9 : decode cX3_dropOldest 9 = .ok (.iload_n 2, 1) := by decide +kernel
theorem dX3_dropOldest_10 : decode cX3_dropOldest 10 = .ok (.aload_n 0, 1) := by decide +kernel
theorem dX3_dropOldest_11 : decode cX3_dropOldest 11 = .ok (.getfield 11, 3) := by decide +kernel
theorem dX3_dropOldest_14 : decode cX3_dropOldest 14 = .ok (.arraylength, 1) := by decide +kernel
theorem dX3_dropOldest_15 : decode cX3_dropOldest 15 = .ok (.if_icmp .ge 23, 3) := by decide +kernel
theorem dX3_dropOldest_18 : decode cX3_dropOldest 18 = .ok (.aload_n 0, 1) := by decide +kernel
theorem dX3_dropOldest_19 : decode cX3_dropOldest 19 = .ok (.getfield 11, 3) := by decide +kernel
theorem dX3_dropOldest_22 : decode cX3_dropOldest 22 = .ok (.iload_n 2, 1) := by decide +kernel
theorem dX3_dropOldest_23 : decode cX3_dropOldest 23 = .ok (.iconst 1, 1) := by decide +kernel
theorem dX3_dropOldest_24 : decode cX3_dropOldest 24 = .ok (.isub, 1) := by decide +kernel
theorem dX3_dropOldest_25 : decode cX3_dropOldest 25 = .ok (.aload_n 0, 1) := by decide +kernel
theorem dX3_dropOldest_26 : decode cX3_dropOldest 26 = .ok (.getfield 11, 3) := by decide +kernel
theorem dX3_dropOldest_29 : decode cX3_dropOldest 29 = .ok (.iload_n 2, 1) := by decide +kernel
theorem dX3_dropOldest_30 : decode cX3_dropOldest 30 = .ok (.aaload, 1) := by decide +kernel
theorem dX3_dropOldest_31 : decode cX3_dropOldest 31 = .ok (.aastore, 1) := by decide +kernel
theorem dX3_dropOldest_32 : decode cX3_dropOldest 32 = .ok (.iinc 2 1, 3) := by decide +kernel
theorem dX3_dropOldest_35 : decode cX3_dropOldest 35 = .ok (.goto (-26), 3) := by decide +kernel
theorem dX3_dropOldest_38 : decode cX3_dropOldest 38 = .ok (.aload_n 0, 1) := by decide +kernel
theorem dX3_dropOldest_39 : decode cX3_dropOldest 39 = .ok (.aload_n 0, 1) := by decide +kernel
theorem dX3_dropOldest_40 : decode cX3_dropOldest 40 = .ok (.getfield 11, 3) := by decide +kernel
theorem dX3_dropOldest_43 : decode cX3_dropOldest 43 = .ok (.arraylength, 1) := by decide +kernel
theorem dX3_dropOldest_44 : decode cX3_dropOldest 44 = .ok (.iconst 1, 1) := by decide +kernel
theorem dX3_dropOldest_45 : decode cX3_dropOldest 45 = .ok (.isub, 1) := by decide +kernel
theorem dX3_dropOldest_46 : decode cX3_dropOldest 46 = .ok (.putfield 17, 3) := by decide +kernel
theorem dX3_dropOldest_49 : decode cX3_dropOldest 49 = .ok (.aload_n 0, 1) := by decide +kernel
theorem dX3_dropOldest_50 : decode cX3_dropOldest 50 = .ok (.getfield 11, 3) := by decide +kernel
theorem dX3_dropOldest_53 : decode cX3_dropOldest 53 = .ok (.aload_n 0, 1) := by decide +kernel
theorem dX3_dropOldest_54 : decode cX3_dropOldest 54 = .ok (.getfield 17, 3) := by decide +kernel
theorem dX3_dropOldest_57 : decode cX3_dropOldest 57 = .ok (.aload_n 1, 1) := by decide +kernel
theorem dX3_dropOldest_58 : decode cX3_dropOldest 58 = .ok (.aastore, 1) := by decide +kernel
theorem dX3_dropOldest_59 : decode cX3_dropOldest 59 = .ok (.return_, 1) := by decide +kernel
theorem dX3_takeBack_0 : decode cX3_takeBack 0 = .ok (.aload_n 0, 1) := by decide +kernel
theorem dX3_takeBack_1 : decode cX3_takeBack 1 = .ok (.getfield 17, 3) := by decide +kernel
theorem dX3_takeBack_4 : decode cX3_takeBack 4 = .ok (.ifCond .le 44, 3) := by decide +kernel
theorem dX3_takeBack_7 : decode cX3_takeBack 7 = .ok (.aload_n 0, 1) := by decide +kernel
theorem dX3_takeBack_8 : decode cX3_takeBack 8 = .ok (.getfield 17, 3) := by decide +kernel
theorem dX3_takeBack_11 : decode cX3_takeBack 11 = .ok (.aload_n 0, 1) := by decide +kernel
theorem dX3_takeBack_12 : decode cX3_takeBack 12 = .ok (.getfield 11, 3) := by decide +kernel
theorem dX3_takeBack_15 : decode cX3_takeBack 15 = .ok (.arraylength, 1) := by decide +kernel
theorem dX3_takeBack_16 : decode cX3_takeBack 16 = .ok (.if_icmp .gt 32, 3) := by decide +kernel
theorem dX3_takeBack_19 : decode cX3_takeBack 19 = .ok (.aload_n 0, 1) := by decide +kernel
theorem dX3_takeBack_20 : decode cX3_takeBack 20 = .ok (.dup, 1) := by decide +kernel
theorem dX3_takeBack_21 : decode cX3_takeBack 21 = .ok (.getfield 17, 3) := by decide +kernel
theorem dX3_takeBack_24 : decode cX3_takeBack 24 = .ok (.iconst 1, 1) := by decide +kernel
theorem dX3_takeBack_25 : decode cX3_takeBack 25 = .ok (.isub, 1) := by decide +kernel
theorem dX3_takeBack_26 : decode cX3_takeBack 26 = .ok (.putfield 17, 3) := by decide +kernel
theorem dX3_takeBack_29 : decode cX3_takeBack 29 = .ok (.aload_n 0, 1) := by decide +kernel
theorem dX3_takeBack_30 : decode cX3_takeBack 30 = .ok (.getfield 11, 3) := by decide +kernel
theorem dX3_takeBack_33 : decode cX3_takeBack 33 = .ok (.aload_n 0, 1) := by decide +kernel
theorem dX3_takeBack_34 : decode cX3_takeBack 34 = .ok (.getfield 17, 3) := by decide +kernel
theorem dX3_takeBack_37 : decode cX3_takeBack 37 = .ok (.aaload, 1) := by decide +kernel
theorem dX3_takeBack_38 : decode cX3_takeBack 38 = .ok (.astore_n 2, 1) := by decide +kernel
theorem dX3_takeBack_39 : decode cX3_takeBack 39 = .ok (.aload_n 2, 1) := by decide +kernel
theorem dX3_takeBack_40 : decode cX3_takeBack 40 = .ok (.ifnull 8, 3) := by decide +kernel
theorem dX3_takeBack_43 : decode cX3_takeBack 43 = .ok (.aload_n 1, 1) := by decide +kernel
theorem dX3_takeBack_44 : decode cX3_takeBack 44 = .ok (.aload_n 2, 1) := by decide +kernel
theorem dX3_takeBack_45 : decode cX3_takeBack 45 = .ok (.invokevirtual 25, 3) := by decide +kernel
theorem dX3_takeBack_48 : decode cX3_takeBack 48 = .ok (.return_, 1) := by decide +kernel
theorem dX4_init_0 : decode cX4_init 0 = .ok (.aload_n 0, 1) := by decide +kernel
theorem dX4_init_1 : decode cX4_init 1 = .ok (.invokespecial 5, 3) := by decide +kernel
theorem dX4_init_4 : decode cX4_init 4 = .ok (.aload_n 0, 1) := by decide +kernel
theorem dX4_init_5 : decode cX4_init 5 = .ok (.sipush 156, 3) := by decide +kernel
theorem dX4_init_8 : decode cX4_init 8 = .ok (.anewarray 11, 3) := by decide +kernel
theorem dX4_init_11 : decode cX4_init 11 = .ok (.putfield 13, 3) := by decide +kernel
theorem dX4_init_14 : decode cX4_init 14 = .ok (.return_, 1) := by decide +kernel
theorem dX4_tableFor_0 : decode cX4_tableFor 0 = .ok (.aload_n 1, 1) := by decide +kernel
theorem dX4_tableFor_1 : decode cX4_tableFor 1 = .ok (.getfield 17, 3) := by decide +kernel
theorem dX4_tableFor_4 : decode cX4_tableFor 4 = .ok (.ifCond .ne 7, 3) := by decide +kernel
theorem dX4_tableFor_7 : decode cX4_tableFor 7 = .ok (.iconst 1, 1) := by decide +kernel
theorem dX4_tableFor_8 : decode cX4_tableFor 8 = .ok (.goto 4, 3) := by decide +kernel
theorem dX4_tableFor_11 : decode cX4_tableFor 11 = .ok (.iconst 0, 1) := by decide +kernel
theorem dX4_tableFor_12 : decode cX4_tableFor 12 = .ok (.istore_n 3, 1) := by decide +kernel
theorem dX4_tableFor_13 : decode cX4_tableFor 13 = .ok (.iload_n 3, 1) := by decide +kernel
theorem dX4_tableFor_14 : decode cX4_tableFor 14 = .ok (.ifCond .eq 16, 3) := by decide +kernel
theorem dX4_tableFor_17 : decode cX4_tableFor 17 = .ok (.iconst 0, 1) := by decide +kernel
theorem dX4_tableFor_18 : decode cX4_tableFor 18 = .ok (.iload_n 2, 1) := by decide +kernel
theorem dX4_tableFor_19 : decode cX4_tableFor 19 = .ok (.bipush 24, 2) := by decide +kernel
end
section
theorem dX4_tableFor_21 : decode cX4_tableFor 21 = .ok (.invokestatic 23, 3) := by decide +kernel
theorem dX4_tableFor_24 : decode cX4_tableFor 24 = .ok (.invokestatic 29, 3) := by decide +kernel
theorem dX4_tableFor_27 : decode cX4_tableFor 27 = .ok (.goto 5, 3) := by decide +kernel
theorem dX4_tableFor_30 : decode cX4_tableFor 30 = .ok (.bipush 8, 2) := by decide +kernel
theorem dX4_tableFor_32 : decode cX4_tableFor 32 = .ok (.istore 4, 2) := by decide +kernel
theorem dX4_tableFor_34 : decode cX4_tableFor 34 = .ok (.iload_n 3, 1) := by decide +kernel
theorem dX4_tableFor_35 : decode cX4_tableFor 35 = .ok (.ifCond .eq 8, 3) := by decide +kernel
theorem dX4_tableFor_38 : decode cX4_tableFor 38 = .ok (.iload 4, 2) := by decide +kernel
theorem dX4_tableFor_40 : decode cX4_tableFor 40 = .ok (.goto 5, 3) := by decide +kernel
theorem dX4_tableFor_43 : decode cX4_tableFor 43 = .ok (.bipush 25, 2) := by decide +kernel
theorem dX4_tableFor_45 : decode cX4_tableFor 45 = .ok (.istore 5, 2) := by decide +kernel
theorem dX4_tableFor_47 : decode cX4_tableFor 47 = .ok (.aload_n 1, 1) := by decide +kernel
theorem dX4_tableFor_48 : decode cX4_tableFor 48 = .ok (.getfield 32, 3) := by decide +kernel
theorem dX4_tableFor_51 : decode cX4_tableFor 51 = .ok (.iconst 1, 1) := by decide +kernel
theorem dX4_tableFor_52 : decode cX4_tableFor 52 = .ok (.isub, 1) := by decide +kernel
theorem dX4_tableFor_53 : decode cX4_tableFor 53 = .ok (.iconst 2, 1) := by decide +kernel
theorem dX4_tableFor_54 : decode cX4_tableFor 54 = .ok (.imul, 1) := by decide +kernel
theorem dX4_tableFor_55 : decode cX4_tableFor 55 = .ok (.aload_n 1, 1) := by decide +kernel
theorem dX4_tableFor_56 : decode cX4_tableFor 56 = .ok (.getfield 35, 3) := by decide +kernel
theorem dX4_tableFor_59 : decode cX4_tableFor 59 = .ok (.iadd, 1) := by decide +kernel
theorem dX4_tableFor_60 : decode cX4_tableFor 60 = .ok (.bipush 26, 2) := by decide +kernel
theorem dX4_tableFor_62 : decode cX4_tableFor 62 = .ok (.imul, 1) := by decide +kernel
theorem dX4_tableFor_63 : decode cX4_tableFor 63 = .ok (.iload 5, 2) := by decide +kernel
theorem dX4_tableFor_65 : decode cX4_tableFor 65 = .ok (.iadd, 1) := by decide +kernel
theorem dX4_tableFor_66 : decode cX4_tableFor 66 = .ok (.istore 6, 2) := by decide +kernel
theorem dX4_tableFor_68 : decode cX4_tableFor 68 = .ok (.iload 6, 2) := by decide +kernel
theorem dX4_tableFor_70 : decode cX4_tableFor 70 = .ok (.ifCond .lt 17, 3) := by decide +kernel
theorem dX4_tableFor_73 : decode cX4_tableFor 73 = .ok (.iload 6, 2) := by decide +kernel
theorem dX4_tableFor_75 : decode cX4_tableFor 75 = .ok (.aload_n 0, 1) := by decide +kernel
theorem dX4_tableFor_76 : decode cX4_tableFor 76 = .ok (.getfield 13, 3) := by decide +kernel
theorem dX4_tableFor_79 : decode cX4_tableFor 79 = .ok (.arraylength, 1) := by decide +kernel
theorem dX4_tableFor_80 : decode cX4_tableFor 80 = .ok (.if_icmp .ge 7, 3) := by decide +kernel
theorem dX4_tableFor_83 : decode cX4_tableFor 83 = .ok (.iconst 1, 1) := by decide +kernel
theorem dX4_tableFor_84 : decode cX4_tableFor 84 = .ok (.goto 4, 3) := by decide +kernel
theorem dX4_tableFor_87 : decode cX4_tableFor 87 = .ok (.iconst 0, 1) := by decide +kernel
theorem dX4_tableFor_88 : decode cX4_tableFor 88 = .ok (.istore 7, 2) := by decide +kernel
theorem dX4_tableFor_90 : decode cX4_tableFor 90 = .ok (.iload 7, 2) := by decide +kernel
theorem dX4_tableFor_92 : decode cX4_tableFor 92 = .ok (.ifCond .eq 13, 3) := by decide +kernel
theorem dX4_tableFor_95 : decode cX4_tableFor 95 = .ok (.aload_n 0, 1) := by decide +kernel
theorem dX4_tableFor_96 : decode cX4_tableFor 96 = .ok (.getfield 13, 3) := by decide +kernel
theorem dX4_tableFor_99 : decode cX4_tableFor 99 = .ok (.iload 6, 2) := by decide +kernel
theorem dX4_tableFor_101 : decode cX4_tableFor 101 = .ok (.aaload, 1) := by decide +kernel
theorem dX4_tableFor_102 : decode cX4_tableFor 102 = .ok (.goto 4, 3) := by decide +kernel
theorem dX4_tableFor_105 : decode cX4_tableFor 105 = .ok (.aconst_null, 1) := by decide +kernel
theorem dX4_tableFor_106 : decode cX4_tableFor 106 = .ok (.astore 8, 2) := by decide +kernel
theorem dX4_tableFor_108 : decode cX4_tableFor 108 = .ok (.aload 8, 2) := by decide +kernel
theorem dX4_tableFor_110 : decode cX4_tableFor 110 = .ok (.ifnull 6, 3) := by decide +kernel
theorem dX4_tableFor_113 : decode cX4_tableFor 113 = .ok (.aload 8, 2) := by decide +kernel
theorem dX4_tableFor_115 : decode cX4_tableFor 115 = .ok (.areturn, 1) := by decide +kernel
theorem dX4_tableFor_116 : decode cX4_tableFor 116 = .ok (.new 11, 3) := by decide +kernel
theorem dX4_tableFor_119 : decode cX4_tableFor 119 = .ok (.dup, 1) := by decide +kernel
theorem dX4_tableFor_120 : decode cX4_tableFor 120 = .ok (.aload_n 1, 1) := by decide +kernel
theorem dX4_tableFor_121 : decode cX4_tableFor 121 = .ok (.getfield 32, 3) := by decide +kernel
theorem dX4_tableFor_124 : decode cX4_tableFor 124 = .ok (.aload_n 1, 1) := by decide +kernel
theorem dX4_tableFor_125 : decode cX4_tableFor 125 = .ok (.getfield 35, 3) := by decide +kernel
theorem dX4_tableFor_128 : decode cX4_tableFor 128 = .ok (.iload_n 3, 1) := by decide +kernel
theorem dX4_tableFor_129 : decode cX4_tableFor 129 = .ok (.iload 4, 2) := by decide +kernel
theorem dX4_tableFor_131 : decode cX4_tableFor 131 = .ok (.invokespecial 38, 3) := by decide +kernel
theorem dX4_tableFor_134 : decode cX4_tableFor 134 = .ok (.astore 9, 2) := by decide +kernel
theorem dX4_tableFor_136 : decode cX4_tableFor 136 = .ok (.aload 9, 2) := by decide +kernel
theorem dX4_tableFor_138 : decode cX4_tableFor 138 = .ok (.invokevirtual 41, 3) := by decide +kernel
theorem dX4_tableFor_141 : decode cX4_tableFor 141 = .ok (.iload 7, 2) := by decide +kernel
theorem dX4_tableFor_143 : decode cX4_tableFor 143 = .ok (.ifCond .eq 12, 3) := by decide +kernel
theorem dX4_tableFor_146 : decode cX4_tableFor 146 = .ok (.aload_n 0, 1) := by decide +kernel
theorem dX4_tableFor_147 : decode cX4_tableFor 147 = .ok (.getfield 13, 3) := by decide +kernel
theorem dX4_tableFor_150 : decode cX4_tableFor 150 = .ok (.iload 6, 2) := by decide +kernel
theorem dX4_tableFor_152 : decode cX4_tableFor 152 = .ok (.aload 9, 2) := by decide +kernel
theorem dX4_tableFor_154 : decode cX4_tableFor 154 = .ok (.aastore, 1) := by decide +kernel
theorem dX4_tableFor_155 : decode cX4_tableFor 155 = .ok (.aload 9, 2) := by decide +kernel
theorem dX4_tableFor_157 : decode cX4_tableFor 157 = .ok (.areturn, 1) := by decide +kernel
theorem dX5_init_0 : decode cX5_init 0 = .ok (.aload_n 0, 1) := by decide +kernel
theorem dX5_init_1 : decode cX5_init 1 = .ok (.invokespecial 3, 3) := by decide +kernel
theorem dX5_init_4 : decode cX5_init 4 = .ok (.aload_n 0, 1) := by decide +kernel
theorem dX5_init_5 : decode cX5_init 5 = .ok (.bipush 60, 2) := by decide +kernel
theorem dX5_init_7 : decode cX5_init 7 = .ok (.newarray .int, 2) := by decide +kernel
theorem dX5_init_9 : decode cX5_init 9 = .ok (.putfield 9, 3) := by decide +kernel
theorem dX5_init_12 : decode cX5_init 12 = .ok (.return_, 1) := by decide +kernel
theorem dX5_countSigns_0 : decode cX5_countSigns 0 = .ok (.iconst 0, 1) := by decide +kernel
theorem dX5_countSigns_1 : decode cX5_countSigns 1 = .ok (.istore_n 2, 1) := by decide +kernel
theorem dX5_countSigns_2 : decode cX5_countSigns 2 = .ok (.lload_n 0, 1) := by decide +kernel
theorem dX5_countSigns_3 : decode cX5_countSigns 3 = .ok (.lstore_n 3, 1) := by decide +kernel
theorem dX5_countSigns_4 : decode cX5_countSigns 4 = .ok (.iload_n 2, 1) := by decide +kernel
theorem dX5_countSigns_5 : decode cX5_countSigns 5 = .ok (.bipush 8, 2) := by decide +kernel
theorem dX5_countSigns_7 : decode cX5_countSigns 7 = .ok (.if_icmp .ge 44, 3) := by decide +kernel
theorem dX5_countSigns_10 : decode cX5_countSigns 10 = .ok (.lload_n 3, 1) := by decide +kernel
theorem dX5_countSigns_11 : decode cX5_countSigns 11 = .ok (.lconst 0, 1) := by decide +kernel
theorem dX5_countSigns_12 : decode cX5_countSigns 12 = .ok (.lcmp, 1) := by decide +kernel
theorem dX5_countSigns_13 : decode cX5_countSigns 13 = .ok (.ifCond .eq 38, 3) := by decide +kernel
theorem dX5_countSigns_16 : decode cX5_countSigns 16 = .ok (.lload_n 3, 1) := by decide +kernel
theorem dX5_countSigns_17 : decode cX5_countSigns 17 = .ok (.ldc2_w 15, 3) := by decide +kernel
theorem dX5_countSigns_20 : decode cX5_countSigns 20 = .ok (.land, 1) := by decide +kernel
theorem dX5_countSigns_21 : decode cX5_countSigns 21 = .ok (.l2i, 1) := by decide +kernel
theorem dX5_countSigns_22 : decode cX5_countSigns 22 = .ok (.istore 5, 2) := by decide +kernel
theorem dX5_countSigns_24 : decode cX5_countSigns 24 = .ok (.iload 5, 2) := by decide +kernel
theorem dX5_countSigns_26 : decode cX5_countSigns 26 = .ok (.bipush 33, 2) := by decide +kernel
theorem dX5_countSigns_28 : decode cX5_countSigns 28 = .ok (.if_icmp .lt 10, 3) := by decide +kernel
theorem dX5_countSigns_31 : decode cX5_countSigns 31 = .ok (.iload 5, 2) := by decide +kernel
theorem dX5_countSigns_33 : decode cX5_countSigns 33 = .ok (.bipush 126, 2) := by decide +kernel
theorem dX5_countSigns_35 : decode cX5_countSigns 35 = .ok (.if_icmp .le 5, 3) := by decide +kernel
theorem dX5_countSigns_38 : decode cX5_countSigns 38 = .ok (.iconst 0, 1) := by decide +kernel
theorem dX5_countSigns_39 : decode cX5_countSigns 39 = .ok (.ireturn, 1) := by decide +kernel
theorem dX5_countSigns_40 : decode cX5_countSigns 40 = .ok (.lload_n 3, 1) := by decide +kernel
theorem dX5_countSigns_41 : decode cX5_countSigns 41 = .ok (.bipush 8, 2) := by decide +kernel
theorem dX5_countSigns_43 : decode cX5_countSigns 43 = .ok (.lushr, 1) := by decide +kernel
theorem dX5_countSigns_44 : decode cX5_countSigns 44 = .ok (.lstore_n 3, 1) := by decide +kernel
theorem dX5_countSigns_45 : decode cX5_countSigns 45 = .ok (.iinc 2 1, 3) := by decide +kernel
theorem dX5_countSigns_48 : decode cX5_countSigns 48 = .ok (.goto (-44), 3) := by decide +kernel
theorem dX5_countSigns_51 : decode cX5_countSigns 51 = .ok (.iload_n 2, 1) := by decide +kernel
theorem dX5_countSigns_52 : decode cX5_countSigns 52 = .ok (.ireturn, 1) := by decide +kernel
theorem dX5_append_0 : decode cX5_append 0 = .ok (.iload_n 3, 1) := by decide +kernel
theorem dX5_append_1 : decode cX5_append 1 = .ok (.iconst 1, 1) := by decide +kernel
theorem dX5_append_2 : decode cX5_append 2 = .ok (.isub, 1) := by decide +kernel
theorem dX5_append_3 : decode cX5_append 3 = .ok (.istore 4, 2) := by decide +kernel
theorem dX5_append_5 : decode cX5_append 5 = .ok (.iload 4, 2) := by decide +kernel
theorem dX5_append_7 : decode cX5_append 7 = .ok (.ifCond .lt 59, 3) := by decide +kernel
theorem dX5_append_10 : decode cX5_append 10 = .ok (.aload_n 0, 1) := by decide +kernel
theorem dX5_append_11 : decode cX5_append 11 = .ok (.getfield 17, 3) := by decide +kernel
theorem dX5_append_14 : decode cX5_append 14 = .ok (.ifCond .lt 46, 3) := by decide +kernel
theorem dX5_append_17 : decode cX5_append 17 = .ok (.aload_n 0, 1) := by decide +kernel
theorem dX5_append_18 : decode cX5_append 18 = .ok (.getfield 17, 3) := by decide +kernel
theorem dX5_append_21 : decode cX5_append 21 = .ok (.aload_n 0, 1) := by decide +kernel
theorem dX5_append_22 : decode cX5_append 22 = .ok (.getfield 9, 3) := by decide +kernel
theorem dX5_append_25 : decode cX5_append 25 = .ok (.arraylength, 1) := by decide +kernel
theorem dX5_append_26 : decode cX5_append 26 = .ok (.if_icmp .ge 34, 3) := by decide +kernel
theorem dX5_append_29 : decode cX5_append 29 = .ok (.aload_n 0, 1) := by decide +kernel
theorem dX5_append_30 : decode cX5_append 30 = .ok (.getfield 9, 3) := by decide +kernel
theorem dX5_append_33 : decode cX5_append 33 = .ok (.aload_n 0, 1) := by decide +kernel
theorem dX5_append_34 : decode cX5_append 34 = .ok (.getfield 17, 3) := by decide +kernel
theorem dX5_append_37 : decode cX5_append 37 = .ok (.lload_n 1, 1) := by decide +kernel
theorem dX5_append_38 : decode cX5_append 38 = .ok (.bipush 8, 2) := by decide +kernel
theorem dX5_append_40 : decode cX5_append 40 = .ok (.iload 4, 2) := by decide +kernel
theorem dX5_append_42 : decode cX5_append 42 = .ok (.imul, 1) := by decide +kernel
theorem dX5_append_43 : decode cX5_append 43 = .ok (.lushr, 1) := by decide +kernel
theorem dX5_append_44 : decode cX5_append 44 = .ok (.ldc2_w 15, 3) := by decide +kernel
theorem dX5_append_47 : decode cX5_append 47 = .ok (.land, 1) := by decide +kernel
theorem dX5_append_48 : decode cX5_append 48 = .ok (.l2i, 1) := by decide +kernel
theorem dX5_append_49 : decode cX5_append 49 = .ok (.iastore, 1) := by decide +kernel
theorem dX5_append_50 : decode cX5_append 50 = .ok (.aload_n 0, 1) := by decide +kernel
theorem dX5_append_51 : decode cX5_append 51 = .ok (.dup, 1) := by decide +kernel
theorem dX5_append_52 : decode cX5_append 52 = .ok (.getfield 17, 3) := by decide +kernel
theorem dX5_append_55 : decode cX5_append 55 = .ok (.iconst 1, 1) := by decide +kernel
theorem dX5_append_56 : decode cX5_append 56 = .ok (.iadd, 1) := by decide +kernel
theorem dX5_append_57 : decode cX5_append 57 = .ok (.putfield 17, 3) := by decide +kernel
theorem dX5_append_60 : decode cX5_append 60 = .ok (.iinc 4 (-1), 3) := by decide +kernel
theorem dX5_append_63 : decode cX5_append 63 = .ok (.goto (-58), 3) := by decide +kernel
theorem dX5_append_66 : decode cX5_append 66 = .ok (.return_, 1) := by decide +kernel
theorem dX5_clear_0 : decode cX5_clear 0 = .ok (.aload_n 0, 1) := by decide +kernel
theorem dX5_clear_1 : decode cX5_clear 1 = .ok (.iconst 0, 1) := by decide +kernel
theorem dX5_clear_2 : decode cX5_clear 2 = .ok (.putfield 17, 3) := by decide +kernel
theorem dX5_clear_5 : decode cX5_clear 5 = .ok (.return_, 1) := by decide +kernel
theorem dX5_signAt_0 : decode cX5_signAt 0 = .ok (.iload_n 1, 1) := by decide +kernel
theorem dX5_signAt_1 : decode cX5_signAt 1 = .ok (.ifCond .lt 21, 3) := by decide +kernel
theorem dX5_signAt_4 : decode cX5_signAt 4 = .ok (.iload_n 1, 1) := by decide +kernel
theorem dX5_signAt_5 : decode cX5_signAt 5 = .ok (.aload_n 0, 1) := by decide +kernel
theorem dX5_signAt_6 : decode cX5_signAt 6 = .ok (.getfield 9, 3) := by decide +kernel
theorem dX5_signAt_9 : decode cX5_signAt 9 = .ok (.arraylength, 1) := by decide +kernel
theorem dX5_signAt_10 : decode cX5_signAt 10 = .ok (.if_icmp .ge 12, 3) := by decide +kernel
theorem dX5_signAt_13 : decode cX5_signAt 13 = .ok (.aload_n 0, 1) := by decide +kernel
theorem dX5_signAt_14 : decode cX5_signAt 14 = .ok (.getfield 9, 3) := by decide +kernel
theorem dX5_signAt_17 : decode cX5_signAt 17 = .ok (.iload_n 1, 1) := by decide +kernel
theorem dX5_signAt_18 : decode cX5_signAt 18 = .ok (.iaload, 1) := by decide +kernel
theorem dX5_signAt_19 : decode cX5_signAt 19 = .ok (.goto 4, 3) := by decide +kernel
theorem dX5_signAt_22 : decode cX5_signAt 22 = .ok (.iconst 0, 1) := by decide +kernel
theorem dX5_signAt_23 : decode cX5_signAt 23 = .ok (.ireturn, 1) := by decide +kernel
theorem dX5_firstFault_0 : decode cX5_firstFault 0 = .ok (.iconst 0, 1) := by decide +kernel
theorem dX5_firstFault_1 : decode cX5_firstFault 1 = .ok (.istore_n 1, 1) := by decide +kernel
theorem dX5_firstFault_2 : decode cX5_firstFault 2 = .ok (.iconst 0, 1) := by decide +kernel
theorem dX5_firstFault_3 : decode cX5_firstFault 3 = .ok (.istore_n 2, 1) := by decide +kernel
theorem dX5_firstFault_4 : decode cX5_firstFault 4 = .ok (.iconst 0, 1) := by decide +kernel
theorem dX5_firstFault_5 : decode cX5_firstFault 5 = .ok (.istore_n 3, 1) := by decide +kernel
theorem dX5_firstFault_6 : decode cX5_firstFault 6 = .ok (.iload_n 3, 1) := by decide +kernel
theorem dX5_firstFault_7 : decode cX5_firstFault 7 = .ok (.aload_n 0, 1) := by decide +kernel
theorem dX5_firstFault_8 : decode cX5_firstFault 8 = .ok (.getfield 17, 3) := by decide +kernel
theorem dX5_firstFault_11 : decode cX5_firstFault 11 = .ok (.if_icmp .ge 82, 3) := by decide +kernel
theorem dX5_firstFault_14 : decode cX5_firstFault 14 = .ok (.aload_n 0, 1) := by decide +kernel
theorem dX5_firstFault_15 : decode cX5_firstFault 15 = .ok (.iload_n 3, 1) := by decide +kernel
theorem dX5_firstFault_16 : decode cX5_firstFault 16 = .ok (.invokevirtual 21, 3) := by decide +kernel
theorem dX5_firstFault_19 : decode cX5_firstFault 19 = .ok (.istore 4, 2) := by decide +kernel
theorem dX5_firstFault_21 : decode cX5_firstFault 21 = .ok (.iload 4, 2) := by decide +kernel
theorem dX5_firstFault_23 : decode cX5_firstFault 23 = .ok (.iload_n 2, 1) := by decide +kernel
theorem dX5_firstFault_24 : decode cX5_firstFault 24 = .ok (.invokestatic 25, 3) := by decide +kernel
theorem dX5_firstFault_27 : decode cX5_firstFault 27 = .ok (.ifCond .eq 23, 3) := by decide +kernel
theorem dX5_firstFault_30 : decode cX5_firstFault 30 = .ok (.iload 4, 2) := by decide +kernel
theorem dX5_firstFault_32 : decode cX5_firstFault 32 = .ok (.bipush 49, 2) := by decide +kernel
theorem dX5_firstFault_34 : decode cX5_firstFault 34 = .ok (.if_icmp .ne 11, 3) := by decide +kernel
theorem dX5_firstFault_37 : decode cX5_firstFault 37 = .ok (.iload_n 2, 1) := by decide +kernel
theorem dX5_firstFault_38 : decode cX5_firstFault 38 = .ok (.ifCond .ne 7, 3) := by decide +kernel
theorem dX5_firstFault_41 : decode cX5_firstFault 41 = .ok (.iconst 1, 1) := by decide +kernel
theorem dX5_firstFault_42 : decode cX5_firstFault 42 = .ok (.goto 4, 3) := by decide +kernel
theorem dX5_firstFault_45 : decode cX5_firstFault 45 = .ok (.iconst 2, 1) := by decide +kernel
theorem dX5_firstFault_46 : decode cX5_firstFault 46 = .ok (.istore_n 2, 1) := by decide +kernel
theorem dX5_firstFault_47 : decode cX5_firstFault 47 = .ok (.goto 40, 3) := by decide +kernel
theorem dX5_firstFault_50 : decode cX5_firstFault 50 = .ok (.iload_n 2, 1) := by decide +kernel
theorem dX5_firstFault_51 : decode cX5_firstFault 51 = .ok (.ifCond .eq 34, 3) := by decide +kernel
theorem dX5_firstFault_54 : decode cX5_firstFault 54 = .ok (.iload 4, 2) := by decide +kernel
theorem dX5_firstFault_56 : decode cX5_firstFault 56 = .ok (.iload_n 1, 1) := by decide +kernel
theorem dX5_firstFault_57 : decode cX5_firstFault 57 = .ok (.ifCond .eq 8, 3) := by decide +kernel
theorem dX5_firstFault_60 : decode cX5_firstFault 60 = .ok (.bipush 44, 2) := by decide +kernel
theorem dX5_firstFault_62 : decode cX5_firstFault 62 = .ok (.goto 5, 3) := by decide +kernel
theorem dX5_firstFault_65 : decode cX5_firstFault 65 = .ok (.bipush 58, 2) := by decide +kernel
theorem dX5_firstFault_67 : decode cX5_firstFault 67 = .ok (.if_icmp .ne 18, 3) := by decide +kernel
theorem dX5_firstFault_70 : decode cX5_firstFault 70 = .ok (.iload_n 1, 1) := by decide +kernel
theorem dX5_firstFault_71 : decode cX5_firstFault 71 = .ok (.ifCond .ne 7, 3) := by decide +kernel
theorem dX5_firstFault_74 : decode cX5_firstFault 74 = .ok (.iconst 1, 1) := by decide +kernel
theorem dX5_firstFault_75 : decode cX5_firstFault 75 = .ok (.goto 4, 3) := by decide +kernel
theorem dX5_firstFault_78 : decode cX5_firstFault 78 = .ok (.iconst 0, 1) := by decide +kernel
theorem dX5_firstFault_79 : decode cX5_firstFault 79 = .ok (.istore_n 1, 1) := by decide +kernel
theorem dX5_firstFault_80 : decode cX5_firstFault 80 = .ok (.iconst 0, 1) := by decide +kernel
theorem dX5_firstFault_81 : decode cX5_firstFault 81 = .ok (.istore_n 2, 1) := by decide +kernel
theorem dX5_firstFault_82 : decode cX5_firstFault 82 = .ok (.goto 5, 3) := by decide +kernel
theorem dX5_firstFault_85 : decode cX5_firstFault 85 = .ok (.iload_n 3, 1) := by decide +kernel
theorem dX5_firstFault_86 : decode cX5_firstFault 86 = .ok (.ireturn, 1) := by decide +kernel
theorem dX5_firstFault_87 : decode cX5_firstFault 87 = .ok (.iinc 3 1, 3) := by decide +kernel
theorem dX5_firstFault_90 : decode cX5_firstFault 90 = .ok (.goto (-84), 3) := by decide +kernel
theorem dX5_firstFault_93 : decode cX5_firstFault 93 = .ok (.iload_n 1, 1) := by decide +kernel
theorem dX5_firstFault_94 : decode cX5_firstFault 94 = .ok (.ifCond .eq 13, 3) := by decide +kernel
theorem dX5_firstFault_97 : decode cX5_firstFault 97 = .ok (.iload_n 2, 1) := by decide +kernel
theorem dX5_firstFault_98 : decode cX5_firstFault 98 = .ok (.ifCond .eq 9, 3) := by decide +kernel
theorem dX5_firstFault_101 : decode cX5_firstFault 101 = .ok (.sipush (-1006), 3) := by decide +kernel
theorem dX5_firstFault_104 : decode cX5_firstFault 104 = .ok (.goto 7, 3) := by decide +kernel
theorem dX5_firstFault_107 : decode cX5_firstFault 107 = .ok (.aload_n 0, 1) := by decide +kernel
theorem dX5_firstFault_108 : decode cX5_firstFault 108 = .ok (.getfield 17, 3) := by decide +kernel
theorem dX5_firstFault_111 : decode cX5_firstFault 111 = .ok (.ireturn, 1) := by decide +kernel
theorem dX5_canStandAsDigit_0 : decode cX5_canStandAsDigit 0 = .ok (.iload_n 1, 1) := by decide +kernel
theorem dX5_canStandAsDigit_1 : decode cX5_canStandAsDigit 1 = .ok (.ifCond .ne 21, 3) := by decide +kernel
theorem dX5_canStandAsDigit_4 : decode cX5_canStandAsDigit 4 = .ok (.iload_n 0, 1) := by decide +kernel
theorem dX5_canStandAsDigit_5 : decode cX5_canStandAsDigit 5 = .ok (.bipush 48, 2) := by decide +kernel
theorem dX5_canStandAsDigit_7 : decode cX5_canStandAsDigit 7 = .ok (.if_icmp .lt 13, 3) := by decide +kernel
theorem dX5_canStandAsDigit_10 : decode cX5_canStandAsDigit 10 = .ok (.iload_n 0, 1) := by decide +kernel
theorem dX5_canStandAsDigit_11 : decode cX5_canStandAsDigit 11 = .ok (.bipush 57, 2) := by decide +kernel
theorem dX5_canStandAsDigit_13 : decode cX5_canStandAsDigit 13 = .ok (.if_icmp .gt 7, 3) := by decide +kernel
theorem dX5_canStandAsDigit_16 : decode cX5_canStandAsDigit 16 = .ok (.iconst 1, 1) := by decide +kernel
theorem dX5_canStandAsDigit_17 : decode cX5_canStandAsDigit 17 = .ok (.goto 4, 3) := by decide +kernel
theorem dX5_canStandAsDigit_20 : decode cX5_canStandAsDigit 20 = .ok (.iconst 0, 1) := by decide +kernel
theorem dX5_canStandAsDigit_21 : decode cX5_canStandAsDigit 21 = .ok (.ireturn, 1) := by decide +kernel
theorem dX5_canStandAsDigit_22 : decode cX5_canStandAsDigit 22 = .ok (.iload_n 1, 1) := by decide +kernel
theorem dX5_canStandAsDigit_23 : decode cX5_canStandAsDigit 23 = .ok (.iconst 1, 1) := by decide +kernel
theorem dX5_canStandAsDigit_24 : decode cX5_canStandAsDigit 24 = .ok (.if_icmp .ne 19, 3) := by decide +kernel
theorem dX5_canStandAsDigit_27 : decode cX5_canStandAsDigit 27 = .ok (.iload_n 0, 1) := by decide +kernel
theorem dX5_canStandAsDigit_28 : decode cX5_canStandAsDigit 28 = .ok (.bipush 48, 2) := by decide +kernel
theorem dX5_canStandAsDigit_30 : decode cX5_canStandAsDigit 30 = .ok (.if_icmp .lt 13, 3) := by decide +kernel
theorem dX5_canStandAsDigit_33 : decode cX5_canStandAsDigit 33 = .ok (.iload_n 0, 1) := by decide +kernel
theorem dX5_canStandAsDigit_34 : decode cX5_canStandAsDigit 34 = .ok (.bipush 52, 2) := by decide +kernel
theorem dX5_canStandAsDigit_36 : decode cX5_canStandAsDigit 36 = .ok (.if_icmp .gt 7, 3) := by decide +kernel
theorem dX5_canStandAsDigit_39 : decode cX5_canStandAsDigit 39 = .ok (.iconst 1, 1) := by decide +kernel
theorem dX5_canStandAsDigit_40 : decode cX5_canStandAsDigit 40 = .ok (.goto 4, 3) := by decide +kernel
theorem dX5_canStandAsDigit_43 : decode cX5_canStandAsDigit 43 = .ok (.iconst 0, 1) := by decide +kernel
theorem dX5_canStandAsDigit_44 : decode cX5_canStandAsDigit 44 = .ok (.ireturn, 1) := by decide +kernel
theorem dX6_init_0 : decode cX6_init 0 = .ok (.aload_n 0, 1) := by decide +kernel
theorem dX6_init_1 : decode cX6_init 1 = .ok (.invokespecial 3, 3) := by decide +kernel
theorem dX6_init_4 : decode cX6_init 4 = .ok (.aload_n 0, 1) := by decide +kernel
theorem dX6_init_5 : decode cX6_init 5 = .ok (.iconst 4, 1) := by decide +kernel
theorem dX6_init_6 : decode cX6_init 6 = .ok (.putfield 9, 3) := by decide +kernel
theorem dX6_init_9 : decode cX6_init 9 = .ok (.aload_n 0, 1) := by decide +kernel
theorem dX6_init_10 : decode cX6_init 10 = .ok (.iconst 4, 1) := by decide +kernel
theorem dX6_init_11 : decode cX6_init 11 = .ok (.putfield 15, 3) := by decide +kernel
theorem dX6_init_14 : decode cX6_init 14 = .ok (.return_, 1) := by decide +kernel
theorem dX6_copyFrom_0 : decode cX6_copyFrom 0 = .ok (.aload_n 0, 1) := by decide +kernel
theorem dX6_copyFrom_1 : decode cX6_copyFrom 1 = .ok (.aload_n 1, 1) := by decide +kernel
theorem dX6_copyFrom_2 : decode cX6_copyFrom 2 = .ok (.getfield 9, 3) := by decide +kernel
theorem dX6_copyFrom_5 : decode cX6_copyFrom 5 = .ok (.putfield 9, 3) := by decide +kernel
theorem dX6_copyFrom_8 : decode cX6_copyFrom 8 = .ok (.aload_n 0, 1) := by decide +kernel
theorem dX6_copyFrom_9 : decode cX6_copyFrom 9 = .ok (.aload_n 1, 1) := by decide +kernel
theorem dX6_copyFrom_10 : decode cX6_copyFrom 10 = .ok (.getfield 15, 3) := by decide +kernel
theorem dX6_copyFrom_13 : decode cX6_copyFrom 13 = .ok (.putfield 15, 3) := by decide +kernel
theorem dX6_copyFrom_16 : decode cX6_copyFrom 16 = .ok (.aload_n 0, 1) := by decide +kernel
theorem dX6_copyFrom_17 : decode cX6_copyFrom 17 = .ok (.aload_n 1, 1) := by decide +kernel
theorem dX6_copyFrom_18 : decode cX6_copyFrom 18 = .ok (.getfield 18, 3) := by decide +kernel
theorem dX6_copyFrom_21 : decode cX6_copyFrom 21 = .ok (.putfield 18, 3) := by decide +kernel
theorem dX6_copyFrom_24 : decode cX6_copyFrom 24 = .ok (.aload_n 0, 1) := by decide +kernel
theorem dX6_copyFrom_25 : decode cX6_copyFrom 25 = .ok (.aload_n 1, 1) := by decide +kernel
theorem dX6_copyFrom_26 : decode cX6_copyFrom 26 = .ok (.getfield 21, 3) := by decide +kernel
theorem dX6_copyFrom_29 : decode cX6_copyFrom 29 = .ok (.putfield 21, 3) := by decide +kernel
theorem dX6_copyFrom_32 : decode cX6_copyFrom 32 = .ok (.aload_n 0, 1) := by decide +kernel
theorem dX6_copyFrom_33 : decode cX6_copyFrom 33 = .ok (.aload_n 1, 1) := by decide +kernel
theorem dX6_copyFrom_34 : decode cX6_copyFrom 34 = .ok (.getfield 24, 3) := by decide +kernel
theorem dX6_copyFrom_37 : decode cX6_copyFrom 37 = .ok (.putfield 24, 3) := by decide +kernel
theorem dX6_copyFrom_40 : decode cX6_copyFrom 40 = .ok (.return_, 1) := by decide +kernel
theorem dX6_startAnew_0 : decode cX6_startAnew 0 = .ok (.aload_n 0, 1) := by decide +kernel
theorem dX6_startAnew_1 : decode cX6_startAnew 1 = .ok (.aload_n 0, 1) := by decide +kernel
theorem dX6_startAnew_2 : decode cX6_startAnew 2 = .ok (.getfield 9, 3) := by decide +kernel
theorem dX6_startAnew_5 : decode cX6_startAnew 5 = .ok (.putfield 15, 3) := by decide +kernel
theorem dX6_startAnew_8 : decode cX6_startAnew 8 = .ok (.aload_n 0, 1) := by decide +kernel
theorem dX6_startAnew_9 : decode cX6_startAnew 9 = .ok (.iconst 0, 1) := by decide +kernel
theorem dX6_startAnew_10 : decode cX6_startAnew 10 = .ok (.putfield 18, 3) := by decide +kernel
theorem dX6_startAnew_13 : decode cX6_startAnew 13 = .ok (.aload_n 0, 1) := by decide +kernel
theorem dX6_startAnew_14 : decode cX6_startAnew 14 = .ok (.iconst 0, 1) := by decide +kernel
theorem dX6_startAnew_15 : decode cX6_startAnew 15 = .ok (.putfield 21, 3) := by decide +kernel
theorem dX6_startAnew_18 : decode cX6_startAnew 18 = .ok (.return_, 1) := by decide +kernel
theorem dX7_init_0 : decode cX7_init 0 = .ok (.aload_n 0, 1) := by decide +kernel
theorem dX7_init_1 : decode cX7_init 1 = .ok (.invokespecial 1, 3) := by decide +kernel
theorem dX7_init_4 : decode cX7_init 4 = .ok (.aload_n 0, 1) := by decide +kernel
theorem dX7_init_5 : decode cX7_init 5 = .ok (.new 7, 3) := by decide +kernel
theorem dX7_init_8 : decode cX7_init 8 = .ok (.dup, 1) := by decide +kernel
theorem dX7_init_9 : decode cX7_init 9 = .ok (.invokespecial 9, 3) := by decide +kernel
theorem dX7_init_12 : decode cX7_init 12 = .ok (.putfield 10, 3) := by decide +kernel
theorem dX7_init_15 : decode cX7_init 15 = .ok (.return_, 1) := by decide +kernel
theorem dX8_init_0 : decode cX8_init 0 = .ok (.aload_n 0, 1) := by decide +kernel
theorem dX8_init_1 : decode cX8_init 1 = .ok (.invokespecial 3, 3) := by decide +kernel
theorem dX8_init_4 : decode cX8_init 4 = .ok (.aload_n 0, 1) := by decide +kernel
theorem dX8_init_5 : decode cX8_init 5 = .ok (.iload_n 1, 1) := by decide +kernel
theorem dX8_init_6 : decode cX8_init 6 = .ok (.putfield 9, 3) := by decide +kernel
theorem dX8_init_9 : decode cX8_init 9 = .ok (.aload_n 0, 1) := by decide +kernel
theorem dX8_init_10 : decode cX8_init 10 = .ok (.iload_n 2, 1) := by decide +kernel
theorem dX8_init_11 : decode cX8_init 11 = .ok (.putfield 15, 3) := by decide +kernel
theorem dX8_init_14 : decode cX8_init 14 = .ok (.aload_n 0, 1) := by decide +kernel
theorem dX8_init_15 : decode cX8_init 15 = .ok (.iload_n 3, 1) := by decide +kernel
theorem dX8_init_16 : decode cX8_init 16 = .ok (.putfield 18, 3) := by decide +kernel
theorem dX8_init_19 : decode cX8_init 19 = .ok (.aload_n 0, 1) := by decide +kernel
theorem dX8_init_20 : decode cX8_init 20 = .ok (.iload 4, 2) := by decide +kernel
theorem dX8_init_22 : decode cX8_init 22 = .ok (.putfield 22, 3) := by decide +kernel
theorem dX8_init_25 : decode cX8_init 25 = .ok (.iconst 0, 1) := by decide +kernel
theorem dX8_init_26 : decode cX8_init 26 = .ok (.iload_n 3, 1) := by decide +kernel
theorem dX8_init_27 : decode cX8_init 27 = .ok (.ifCond .eq 10, 3) := by decide +kernel
theorem dX8_init_30 : decode cX8_init 30 = .ok (.iload 4, 2) := by decide +kernel
theorem dX8_init_32 : decode cX8_init 32 = .ok (.iconst 1, 1) := by decide +kernel
theorem dX8_init_33 : decode cX8_init 33 = .ok (.iadd, 1) := by decide +kernel
theorem dX8_init_34 : decode cX8_init 34 = .ok (.goto 12, 3) := by decide +kernel
theorem dX8_init_37 : decode cX8_init 37 = .ok (.iload 4, 2) := by decide +kernel
theorem dX8_init_39 : decode cX8_init 39 = .ok (.iconst 1, 1) := by decide +kernel
theorem dX8_init_40 : decode cX8_init 40 = .ok (.iadd, 1) := by decide +kernel
theorem dX8_init_41 : decode cX8_init 41 = .ok (.iload 4, 2) := by decide +kernel
theorem dX8_init_43 : decode cX8_init 43 = .ok (.iconst 1, 1) := by decide +kernel
theorem dX8_init_44 : decode cX8_init 44 = .ok (.iadd, 1) := by decide +kernel
theorem dX8_init_45 : decode cX8_init 45 = .ok (.imul, 1) := by decide +kernel
theorem dX8_init_46 : decode cX8_init 46 = .ok (.invokestatic 25, 3) := by decide +kernel
theorem dX8_init_49 : decode cX8_init 49 = .ok (.istore 5, 2) := by decide +kernel
theorem dX8_init_51 : decode cX8_init 51 = .ok (.aload_n 0, 1) := by decide +kernel
theorem dX8_init_52 : decode cX8_init 52 = .ok (.iload 5, 2) := by decide +kernel
theorem dX8_init_54 : decode cX8_init 54 = .ok (.newarray .int, 2) := by decide +kernel
theorem dX8_init_56 : decode cX8_init 56 = .ok (.putfield 31, 3) := by decide +kernel
theorem dX8_init_59 : decode cX8_init 59 = .ok (.aload_n 0, 1) := by decide +kernel
theorem dX8_init_60 : decode cX8_init 60 = .ok (.iload 5, 2) := by decide +kernel
theorem dX8_init_62 : decode cX8_init 62 = .ok (.newarray .int, 2) := by decide +kernel
theorem dX8_init_64 : decode cX8_init 64 = .ok (.putfield 35, 3) := by decide +kernel
theorem dX8_init_67 : decode cX8_init 67 = .ok (.iconst 0, 1) := by decide +kernel
theorem dX8_init_68 : decode cX8_init 68 = .ok (.istore 6, 2) := by decide +kernel
theorem dX8_init_70 : decode cX8_init 70 = .ok (.iconst 0, 1) := by decide +kernel
theorem dX8_init_71 : decode cX8_init 71 = .ok (.istore 7, 2) := by decide +kernel
theorem dX8_init_73 : decode cX8_init 73 = .ok (.iload 7, 2) := by decide +kernel
theorem dX8_init_75 : decode cX8_init 75 = .ok (.iload 4, 2) := by decide +kernel
theorem dX8_init_77 : decode cX8_init 77 = .ok (.if_icmp .gt 78, 3) := by decide +kernel
theorem dX8_init_80 : decode cX8_init 80 = .ok (.iload_n 3, 1) := by decide +kernel
theorem dX8_init_81 : decode cX8_init 81 = .ok (.ifCond .eq 11, 3) := by decide +kernel
theorem dX8_init_84 : decode cX8_init 84 = .ok (.iload 4, 2) := by decide +kernel
theorem dX8_init_86 : decode cX8_init 86 = .ok (.iload 7, 2) := by decide +kernel
theorem dX8_init_88 : decode cX8_init 88 = .ok (.isub, 1) := by decide +kernel
theorem dX8_init_89 : decode cX8_init 89 = .ok (.goto 5, 3) := by decide +kernel
theorem dX8_init_92 : decode cX8_init 92 = .ok (.iload 4, 2) := by decide +kernel
theorem dX8_init_94 : decode cX8_init 94 = .ok (.istore 8, 2) := by decide +kernel
theorem dX8_init_96 : decode cX8_init 96 = .ok (.iload_n 3, 1) := by decide +kernel
theorem dX8_init_97 : decode cX8_init 97 = .ok (.ifCond .eq 8, 3) := by decide +kernel
theorem dX8_init_100 : decode cX8_init 100 = .ok (.iload 8, 2) := by decide +kernel
theorem dX8_init_102 : decode cX8_init 102 = .ok (.goto 4, 3) := by decide +kernel
theorem dX8_init_105 : decode cX8_init 105 = .ok (.iconst 0, 1) := by decide +kernel
theorem dX8_init_106 : decode cX8_init 106 = .ok (.istore 9, 2) := by decide +kernel
theorem dX8_init_108 : decode cX8_init 108 = .ok (.iload 9, 2) := by decide +kernel
theorem dX8_init_110 : decode cX8_init 110 = .ok (.iload 8, 2) := by decide +kernel
theorem dX8_init_112 : decode cX8_init 112 = .ok (.if_icmp .gt 37, 3) := by decide +kernel
theorem dX8_init_115 : decode cX8_init 115 = .ok (.iload 6, 2) := by decide +kernel
theorem dX8_init_117 : decode cX8_init 117 = .ok (.iload 5, 2) := by decide +kernel
theorem dX8_init_119 : decode cX8_init 119 = .ok (.if_icmp .ge 30, 3) := by decide +kernel
theorem dX8_init_122 : decode cX8_init 122 = .ok (.aload_n 0, 1) := by decide +kernel
theorem dX8_init_123 : decode cX8_init 123 = .ok (.getfield 31, 3) := by decide +kernel
theorem dX8_init_126 : decode cX8_init 126 = .ok (.iload 6, 2) := by decide +kernel
theorem dX8_init_128 : decode cX8_init 128 = .ok (.iload 7, 2) := by decide +kernel
theorem dX8_init_130 : decode cX8_init 130 = .ok (.iastore, 1) := by decide +kernel
theorem dX8_init_131 : decode cX8_init 131 = .ok (.aload_n 0, 1) := by decide +kernel
theorem dX8_init_132 : decode cX8_init 132 = .ok (.getfield 35, 3) := by decide +kernel
theorem dX8_init_135 : decode cX8_init 135 = .ok (.iload 6, 2) := by decide +kernel
theorem dX8_init_137 : decode cX8_init 137 = .ok (.iload 9, 2) := by decide +kernel
theorem dX8_init_139 : decode cX8_init 139 = .ok (.iastore, 1) := by decide +kernel
theorem dX8_init_140 : decode cX8_init 140 = .ok (.iinc 6 1, 3) := by decide +kernel
theorem dX8_init_143 : decode cX8_init 143 = .ok (.iinc 9 1, 3) := by decide +kernel
theorem dX8_init_146 : decode cX8_init 146 = .ok (.goto (-38), 3) := by decide +kernel
theorem dX8_init_149 : decode cX8_init 149 = .ok (.iinc 7 1, 3) := by decide +kernel
theorem dX8_init_152 : decode cX8_init 152 = .ok (.goto (-79), 3) := by decide +kernel
theorem dX8_init_155 : decode cX8_init 155 = .ok (.aload_n 0, 1) := by decide +kernel
theorem dX8_init_156 : decode cX8_init 156 = .ok (.iconst 0, 1) := by decide +kernel
theorem dX8_init_157 : decode cX8_init 157 = .ok (.iconst 4, 1) := by decide +kernel
theorem dX8_init_158 : decode cX8_init 158 = .ok (.iload_n 1, 1) := by decide +kernel
theorem dX8_init_159 : decode cX8_init 159 = .ok (.imul, 1) := by decide +kernel
theorem dX8_init_160 : decode cX8_init 160 = .ok (.iconst 2, 1) := by decide +kernel
theorem dX8_init_161 : decode cX8_init 161 = .ok (.iadd, 1) := by decide +kernel
theorem dX8_init_162 : decode cX8_init 162 = .ok (.iload 5, 2) := by decide +kernel
theorem dX8_init_164 : decode cX8_init 164 = .ok (.imul, 1) := by decide +kernel
theorem dX8_init_165 : decode cX8_init 165 = .ok (.invokestatic 25, 3) := by decide +kernel
theorem dX8_init_168 : decode cX8_init 168 = .ok (.newarray .int, 2) := by decide +kernel
theorem dX8_init_170 : decode cX8_init 170 = .ok (.putfield 38, 3) := by decide +kernel
theorem dX8_init_173 : decode cX8_init 173 = .ok (.iconst 0, 1) := by decide +kernel
theorem dX8_init_174 : decode cX8_init 174 = .ok (.istore 7, 2) := by decide +kernel
theorem dX8_init_176 : decode cX8_init 176 = .ok (.iload 7, 2) := by decide +kernel
theorem dX8_init_178 : decode cX8_init 178 = .ok (.aload_n 0, 1) := by decide +kernel
theorem dX8_init_179 : decode cX8_init 179 = .ok (.getfield 38, 3) := by decide +kernel
theorem dX8_init_182 : decode cX8_init 182 = .ok (.arraylength, 1) := by decide +kernel
theorem dX8_init_183 : decode cX8_init 183 = .ok (.if_icmp .ge 31, 3) := by decide +kernel
theorem dX8_init_186 : decode cX8_init 186 = .ok (.aload_n 0, 1) := by decide +kernel
theorem dX8_init_187 : decode cX8_init 187 = .ok (.getfield 38, 3) := by decide +kernel
theorem dX8_init_190 : decode cX8_init 190 = .ok (.iload 7, 2) := by decide +kernel
theorem dX8_init_192 : decode cX8_init 192 = .ok (.iload 7, 2) := by decide +kernel
theorem dX8_init_194 : decode cX8_init 194 = .ok (.iconst 2, 1) := by decide +kernel
theorem dX8_init_195 : decode cX8_init 195 = .ok (.iload 5, 2) := by decide +kernel
theorem dX8_init_197 : decode cX8_init 197 = .ok (.imul, 1) := by decide +kernel
theorem dX8_init_198 : decode cX8_init 198 = .ok (.if_icmp .ge 7, 3) := by decide +kernel
theorem dX8_init_201 : decode cX8_init 201 = .ok (.iconst 0, 1) := by decide +kernel
theorem dX8_init_202 : decode cX8_init 202 = .ok (.goto 5, 3) := by decide +kernel
theorem dX8_init_205 : decode cX8_init 205 = .ok (.bipush 9, 2) := by decide +kernel
theorem dX8_init_207 : decode cX8_init 207 = .ok (.iastore, 1) := by decide +kernel
theorem dX8_init_208 : decode cX8_init 208 = .ok (.iinc 7 1, 3) := by decide +kernel
theorem dX8_init_211 : decode cX8_init 211 = .ok (.goto (-35), 3) := by decide +kernel
theorem dX8_init_214 : decode cX8_init 214 = .ok (.return_, 1) := by decide +kernel
theorem dX8_timeAt_0 : decode cX8_timeAt 0 = .ok (.iload_n 2, 1) := by decide +kernel
theorem dX8_timeAt_1 : decode cX8_timeAt 1 = .ok (.ifCond .lt 23, 3) := by decide +kernel
theorem dX8_timeAt_4 : decode cX8_timeAt 4 = .ok (.iload_n 2, 1) := by decide +kernel
theorem dX8_timeAt_5 : decode cX8_timeAt 5 = .ok (.aload_n 0, 1) := by decide +kernel
theorem dX8_timeAt_6 : decode cX8_timeAt 6 = .ok (.getfield 22, 3) := by decide +kernel
theorem dX8_timeAt_9 : decode cX8_timeAt 9 = .ok (.if_icmp .gt 15, 3) := by decide +kernel
theorem dX8_timeAt_12 : decode cX8_timeAt 12 = .ok (.iload_n 3, 1) := by decide +kernel
theorem dX8_timeAt_13 : decode cX8_timeAt 13 = .ok (.ifCond .lt 11, 3) := by decide +kernel
theorem dX8_timeAt_16 : decode cX8_timeAt 16 = .ok (.iload_n 3, 1) := by decide +kernel
theorem dX8_timeAt_17 : decode cX8_timeAt 17 = .ok (.aload_n 0, 1) := by decide +kernel
theorem dX8_timeAt_18 : decode cX8_timeAt 18 = .ok (.getfield 22, 3) := by decide +kernel
theorem dX8_timeAt_21 : decode cX8_timeAt 21 = .ok (.if_icmp .le 6, 3) := by decide +kernel
theorem dX8_timeAt_24 : decode cX8_timeAt 24 = .ok (.bipush 9, 2) := by decide +kernel
theorem dX8_timeAt_26 : decode cX8_timeAt 26 = .ok (.ireturn, 1) := by decide +kernel
theorem dX8_timeAt_27 : decode cX8_timeAt 27 = .ok (.iconst 2, 1) := by decide +kernel
theorem dX8_timeAt_28 : decode cX8_timeAt 28 = .ok (.iload_n 1, 1) := by decide +kernel
theorem dX8_timeAt_29 : decode cX8_timeAt 29 = .ok (.imul, 1) := by decide +kernel
theorem dX8_timeAt_30 : decode cX8_timeAt 30 = .ok (.iload 4, 2) := by decide +kernel
theorem dX8_timeAt_32 : decode cX8_timeAt 32 = .ok (.ifCond .eq 7, 3) := by decide +kernel
theorem dX8_timeAt_35 : decode cX8_timeAt 35 = .ok (.iconst 1, 1) := by decide +kernel
theorem dX8_timeAt_36 : decode cX8_timeAt 36 = .ok (.goto 4, 3) := by decide +kernel
theorem dX8_timeAt_39 : decode cX8_timeAt 39 = .ok (.iconst 0, 1) := by decide +kernel
theorem dX8_timeAt_40 : decode cX8_timeAt 40 = .ok (.iadd, 1) := by decide +kernel
theorem dX8_timeAt_41 : decode cX8_timeAt 41 = .ok (.istore 5, 2) := by decide +kernel
theorem dX8_timeAt_43 : decode cX8_timeAt 43 = .ok (.iload 5, 2) := by decide +kernel
theorem dX8_timeAt_45 : decode cX8_timeAt 45 = .ok (.aload_n 0, 1) := by decide +kernel
theorem dX8_timeAt_46 : decode cX8_timeAt 46 = .ok (.getfield 31, 3) := by decide +kernel
theorem dX8_timeAt_49 : decode cX8_timeAt 49 = .ok (.arraylength, 1) := by decide +kernel
theorem dX8_timeAt_50 : decode cX8_timeAt 50 = .ok (.imul, 1) := by decide +kernel
theorem dX8_timeAt_51 : decode cX8_timeAt 51 = .ok (.aload_n 0, 1) := by decide +kernel
theorem dX8_timeAt_52 : decode cX8_timeAt 52 = .ok (.getfield 18, 3) := by decide +kernel
theorem dX8_timeAt_55 : decode cX8_timeAt 55 = .ok (.ifCond .eq 7, 3) := by decide +kernel
theorem dX8_timeAt_58 : decode cX8_timeAt 58 = .ok (.iload_n 2, 1) := by decide +kernel
theorem dX8_timeAt_59 : decode cX8_timeAt 59 = .ok (.goto 13, 3) := by decide +kernel
theorem dX8_timeAt_62 : decode cX8_timeAt 62 = .ok (.iload_n 2, 1) := by decide +kernel
theorem dX8_timeAt_63 : decode cX8_timeAt 63 = .ok (.aload_n 0, 1) := by decide +kernel
theorem dX8_timeAt_64 : decode cX8_timeAt 64 = .ok (.getfield 22, 3) := by decide +kernel
theorem dX8_timeAt_67 : decode cX8_timeAt 67 = .ok (.iconst 1, 1) := by decide +kernel
theorem dX8_timeAt_68 : decode cX8_timeAt 68 = .ok (.iadd, 1) := by decide +kernel
theorem dX8_timeAt_69 : decode cX8_timeAt 69 = .ok (.imul, 1) := by decide +kernel
theorem dX8_timeAt_70 : decode cX8_timeAt 70 = .ok (.iload_n 3, 1) := by decide +kernel
theorem dX8_timeAt_71 : decode cX8_timeAt 71 = .ok (.iadd, 1) := by decide +kernel
theorem dX8_timeAt_72 : decode cX8_timeAt 72 = .ok (.iadd, 1) := by decide +kernel
theorem dX8_timeAt_73 : decode cX8_timeAt 73 = .ok (.istore 6, 2) := by decide +kernel
theorem dX8_timeAt_75 : decode cX8_timeAt 75 = .ok (.iload 6, 2) := by decide +kernel
theorem dX8_timeAt_77 : decode cX8_timeAt 77 = .ok (.ifCond .lt 23, 3) := by decide +kernel
theorem dX8_timeAt_80 : decode cX8_timeAt 80 = .ok (.iload 6, 2) := by decide +kernel
theorem dX8_timeAt_82 : decode cX8_timeAt 82 = .ok (.aload_n 0, 1) := by decide +kernel
theorem dX8_timeAt_83 : decode cX8_timeAt 83 = .ok (.getfield 38, 3) := by decide +kernel
theorem dX8_timeAt_86 : decode cX8_timeAt 86 = .ok (.arraylength, 1) := by decide +kernel
theorem dX8_timeAt_87 : decode cX8_timeAt 87 = .ok (.if_icmp .ge 13, 3) := by decide +kernel
theorem dX8_timeAt_90 : decode cX8_timeAt 90 = .ok (.aload_n 0, 1) := by decide +kernel
theorem dX8_timeAt_91 : decode cX8_timeAt 91 = .ok (.getfield 38, 3) := by decide +kernel
theorem dX8_timeAt_94 : decode cX8_timeAt 94 = .ok (.iload 6, 2) := by decide +kernel
theorem dX8_timeAt_96 : decode cX8_timeAt 96 = .ok (.iaload, 1) := by decide +kernel
theorem dX8_timeAt_97 : decode cX8_timeAt 97 = .ok (.goto 5, 3) := by decide +kernel
theorem dX8_timeAt_100 : decode cX8_timeAt 100 = .ok (.bipush 9, 2) := by decide +kernel
theorem dX8_timeAt_102 : decode cX8_timeAt 102 = .ok (.ireturn, 1) := by decide +kernel
theorem dX8_learnAll_0 : decode cX8_learnAll 0 = .ok (.iconst 1, 1) := by decide +kernel
theorem dX8_learnAll_1 : decode cX8_learnAll 1 = .ok (.istore_n 1, 1) := by decide +kernel
theorem dX8_learnAll_2 : decode cX8_learnAll 2 = .ok (.iconst 1, 1) := by decide +kernel
theorem dX8_learnAll_3 : decode cX8_learnAll 3 = .ok (.istore_n 2, 1) := by decide +kernel
theorem dX8_learnAll_4 : decode cX8_learnAll 4 = .ok (.iload_n 2, 1) := by decide +kernel
theorem dX8_learnAll_5 : decode cX8_learnAll 5 = .ok (.bipush 8, 2) := by decide +kernel
theorem dX8_learnAll_7 : decode cX8_learnAll 7 = .ok (.if_icmp .gt 19, 3) := by decide +kernel
theorem dX8_learnAll_10 : decode cX8_learnAll 10 = .ok (.iload_n 1, 1) := by decide +kernel
theorem dX8_learnAll_11 : decode cX8_learnAll 11 = .ok (.ifCond .eq 15, 3) := by decide +kernel
theorem dX8_learnAll_14 : decode cX8_learnAll 14 = .ok (.aload_n 0, 1) := by decide +kernel
theorem dX8_learnAll_15 : decode cX8_learnAll 15 = .ok (.iload_n 2, 1) := by decide +kernel
theorem dX8_learnAll_16 : decode cX8_learnAll 16 = .ok (.invokevirtual 41, 3) := by decide +kernel
theorem dX8_learnAll_19 : decode cX8_learnAll 19 = .ok (.istore_n 1, 1) := by decide +kernel
theorem dX8_learnAll_20 : decode cX8_learnAll 20 = .ok (.iinc 2 1, 3) := by decide +kernel
theorem dX8_learnAll_23 : decode cX8_learnAll 23 = .ok (.goto (-19), 3) := by decide +kernel
theorem dX8_learnAll_26 : decode cX8_learnAll 26 = .ok (.return_, 1) := by decide +kernel
theorem dX8_learnRounds_0 : decode cX8_learnRounds 0 = .ok (.iconst 0, 1) := by decide +kernel
theorem dX8_learnRounds_1 : decode cX8_learnRounds 1 = .ok (.istore_n 2, 1) := by decide +kernel
theorem dX8_learnRounds_2 : decode cX8_learnRounds 2 = .ok (.iconst 2, 1) := by decide +kernel
theorem dX8_learnRounds_3 : decode cX8_learnRounds 3 = .ok (.istore_n 3, 1) := by decide +kernel
theorem dX8_learnRounds_4 : decode cX8_learnRounds 4 = .ok (.iload_n 3, 1) := by decide +kernel
theorem dX8_learnRounds_5 : decode cX8_learnRounds 5 = .ok (.iconst 4, 1) := by decide +kernel
theorem dX8_learnRounds_6 : decode cX8_learnRounds 6 = .ok (.aload_n 0, 1) := by decide +kernel
theorem dX8_learnRounds_7 : decode cX8_learnRounds 7 = .ok (.getfield 9, 3) := by decide +kernel
theorem dX8_learnRounds_10 : decode cX8_learnRounds 10 = .ok (.imul, 1) := by decide +kernel
theorem dX8_learnRounds_11 : decode cX8_learnRounds 11 = .ok (.if_icmp .ge 155, 3) := by decide +kernel
theorem dX8_learnRounds_14 : decode cX8_learnRounds 14 = .ok (.iconst 0, 1) := by decide +kernel
theorem dX8_learnRounds_15 : decode cX8_learnRounds 15 = .ok (.istore 4, 2) := by decide +kernel
theorem dX8_learnRounds_17 : decode cX8_learnRounds 17 = .ok (.iload 4, 2) := by decide +kernel
theorem dX8_learnRounds_19 : decode cX8_learnRounds 19 = .ok (.aload_n 0, 1) := by decide +kernel
theorem dX8_learnRounds_20 : decode cX8_learnRounds 20 = .ok (.getfield 31, 3) := by decide +kernel
theorem dX8_learnRounds_23 : decode cX8_learnRounds 23 = .ok (.arraylength, 1) := by decide +kernel
theorem dX8_learnRounds_24 : decode cX8_learnRounds 24 = .ok (.if_icmp .ge 136, 3) := by decide +kernel
theorem dX8_learnRounds_27 : decode cX8_learnRounds 27 = .ok (.iload 4, 2) := by decide +kernel
theorem dX8_learnRounds_29 : decode cX8_learnRounds 29 = .ok (.aload_n 0, 1) := by decide +kernel
theorem dX8_learnRounds_30 : decode cX8_learnRounds 30 = .ok (.getfield 35, 3) := by decide +kernel
theorem dX8_learnRounds_33 : decode cX8_learnRounds 33 = .ok (.arraylength, 1) := by decide +kernel
theorem dX8_learnRounds_34 : decode cX8_learnRounds 34 = .ok (.if_icmp .ge 126, 3) := by decide +kernel
theorem dX8_learnRounds_37 : decode cX8_learnRounds 37 = .ok (.iload_n 3, 1) := by decide +kernel
theorem dX8_learnRounds_38 : decode cX8_learnRounds 38 = .ok (.aload_n 0, 1) := by decide +kernel
theorem dX8_learnRounds_39 : decode cX8_learnRounds 39 = .ok (.getfield 31, 3) := by decide +kernel
theorem dX8_learnRounds_42 : decode cX8_learnRounds 42 = .ok (.arraylength, 1) := by decide +kernel
theorem dX8_learnRounds_43 : decode cX8_learnRounds 43 = .ok (.imul, 1) := by decide +kernel
theorem dX8_learnRounds_44 : decode cX8_learnRounds 44 = .ok (.iload 4, 2) := by decide +kernel
theorem dX8_learnRounds_46 : decode cX8_learnRounds 46 = .ok (.iadd, 1) := by decide +kernel
theorem dX8_learnRounds_47 : decode cX8_learnRounds 47 = .ok (.istore 5, 2) := by decide +kernel
theorem dX8_learnRounds_49 : decode cX8_learnRounds 49 = .ok (.iload 5, 2) := by decide +kernel
theorem dX8_learnRounds_51 : decode cX8_learnRounds 51 = .ok (.aload_n 0, 1) := by decide +kernel
theorem dX8_learnRounds_52 : decode cX8_learnRounds 52 = .ok (.getfield 38, 3) := by decide +kernel
theorem dX8_learnRounds_55 : decode cX8_learnRounds 55 = .ok (.arraylength, 1) := by decide +kernel
theorem dX8_learnRounds_56 : decode cX8_learnRounds 56 = .ok (.if_icmp .ge 98, 3) := by decide +kernel
theorem dX8_learnRounds_59 : decode cX8_learnRounds 59 = .ok (.aload_n 0, 1) := by decide +kernel
theorem dX8_learnRounds_60 : decode cX8_learnRounds 60 = .ok (.getfield 38, 3) := by decide +kernel
theorem dX8_learnRounds_63 : decode cX8_learnRounds 63 = .ok (.iload 5, 2) := by decide +kernel
theorem dX8_learnRounds_65 : decode cX8_learnRounds 65 = .ok (.iaload, 1) := by decide +kernel
theorem dX8_learnRounds_66 : decode cX8_learnRounds 66 = .ok (.bipush 9, 2) := by decide +kernel
theorem dX8_learnRounds_68 : decode cX8_learnRounds 68 = .ok (.if_icmp .ne 86, 3) := by decide +kernel
theorem dX8_learnRounds_71 : decode cX8_learnRounds 71 = .ok (.iload_n 3, 1) := by decide +kernel
theorem dX8_learnRounds_72 : decode cX8_learnRounds 72 = .ok (.iconst 2, 1) := by decide +kernel
theorem dX8_learnRounds_73 : decode cX8_learnRounds 73 = .ok (.irem, 1) := by decide +kernel
theorem dX8_learnRounds_74 : decode cX8_learnRounds 74 = .ok (.iconst 1, 1) := by decide +kernel
theorem dX8_learnRounds_75 : decode cX8_learnRounds 75 = .ok (.if_icmp .ne 30, 3) := by decide +kernel
theorem dX8_learnRounds_78 : decode cX8_learnRounds 78 = .ok (.aload_n 0, 1) := by decide +kernel
theorem dX8_learnRounds_79 : decode cX8_learnRounds 79 = .ok (.iload_n 1, 1) := by decide +kernel
theorem dX8_learnRounds_80 : decode cX8_learnRounds 80 = .ok (.iconst 1, 1) := by decide +kernel
theorem dX8_learnRounds_81 : decode cX8_learnRounds 81 = .ok (.isub, 1) := by decide +kernel
theorem dX8_learnRounds_82 : decode cX8_learnRounds 82 = .ok (.iload_n 3, 1) := by decide +kernel
theorem dX8_learnRounds_83 : decode cX8_learnRounds 83 = .ok (.iconst 2, 1) := by decide +kernel
theorem dX8_learnRounds_84 : decode cX8_learnRounds 84 = .ok (.idiv, 1) := by decide +kernel
theorem dX8_learnRounds_85 : decode cX8_learnRounds 85 = .ok (.aload_n 0, 1) := by decide +kernel
theorem dX8_learnRounds_86 : decode cX8_learnRounds 86 = .ok (.getfield 31, 3) := by decide +kernel
theorem dX8_learnRounds_89 : decode cX8_learnRounds 89 = .ok (.iload 4, 2) := by decide +kernel
theorem dX8_learnRounds_91 : decode cX8_learnRounds 91 = .ok (.iaload, 1) := by decide +kernel
theorem dX8_learnRounds_92 : decode cX8_learnRounds 92 = .ok (.aload_n 0, 1) := by decide +kernel
theorem dX8_learnRounds_93 : decode cX8_learnRounds 93 = .ok (.getfield 35, 3) := by decide +kernel
theorem dX8_learnRounds_96 : decode cX8_learnRounds 96 = .ok (.iload 4, 2) := by decide +kernel
theorem dX8_learnRounds_98 : decode cX8_learnRounds 98 = .ok (.iaload, 1) := by decide +kernel
theorem dX8_learnRounds_99 : decode cX8_learnRounds 99 = .ok (.invokevirtual 45, 3) := by decide +kernel
theorem dX8_learnRounds_102 : decode cX8_learnRounds 102 = .ok (.goto 27, 3) := by decide +kernel
theorem dX8_learnRounds_105 : decode cX8_learnRounds 105 = .ok (.aload_n 0, 1) := by decide +kernel
theorem dX8_learnRounds_106 : decode cX8_learnRounds 106 = .ok (.iload_n 1, 1) := by decide +kernel
theorem dX8_learnRounds_107 : decode cX8_learnRounds 107 = .ok (.iconst 1, 1) := by decide +kernel
theorem dX8_learnRounds_108 : decode cX8_learnRounds 108 = .ok (.isub, 1) := by decide +kernel
theorem dX8_learnRounds_109 : decode cX8_learnRounds 109 = .ok (.iload_n 3, 1) := by decide +kernel
theorem dX8_learnRounds_110 : decode cX8_learnRounds 110 = .ok (.iconst 2, 1) := by decide +kernel
theorem dX8_learnRounds_111 : decode cX8_learnRounds 111 = .ok (.idiv, 1) := by decide +kernel
theorem dX8_learnRounds_112 : decode cX8_learnRounds 112 = .ok (.aload_n 0, 1) := by decide +kernel
theorem dX8_learnRounds_113 : decode cX8_learnRounds 113 = .ok (.getfield 31, 3) := by decide +kernel
theorem dX8_learnRounds_116 : decode cX8_learnRounds 116 = .ok (.iload 4, 2) := by decide +kernel
theorem dX8_learnRounds_118 : decode cX8_learnRounds 118 = .ok (.iaload, 1) := by decide +kernel
theorem dX8_learnRounds_119 : decode cX8_learnRounds 119 = .ok (.aload_n 0, 1) := by decide +kernel
theorem dX8_learnRounds_120 : decode cX8_learnRounds 120 = .ok (.getfield 35, 3) := by decide +kernel
theorem dX8_learnRounds_123 : decode cX8_learnRounds 123 = .ok (.iload 4, 2) := by decide +kernel
theorem dX8_learnRounds_125 : decode cX8_learnRounds 125 = .ok (.iaload, 1) := by decide +kernel
theorem dX8_learnRounds_126 : decode cX8_learnRounds 126 = .ok (.invokevirtual 49, 3) := by decide +kernel
theorem dX8_learnRounds_129 : decode cX8_learnRounds 129 = .ok (.istore 6, 2) := by decide +kernel
theorem dX8_learnRounds_131 : decode cX8_learnRounds 131 = .ok (.aload_n 0, 1) := by decide +kernel
theorem dX8_learnRounds_132 : decode cX8_learnRounds 132 = .ok (.getfield 38, 3) := by decide +kernel
theorem dX8_learnRounds_135 : decode cX8_learnRounds 135 = .ok (.iload 5, 2) := by decide +kernel
theorem dX8_learnRounds_137 : decode cX8_learnRounds 137 = .ok (.iload 6, 2) := by decide +kernel
theorem dX8_learnRounds_139 : decode cX8_learnRounds 139 = .ok (.ifCond .eq 7, 3) := by decide +kernel
theorem dX8_learnRounds_142 : decode cX8_learnRounds 142 = .ok (.iload_n 1, 1) := by decide +kernel
theorem dX8_learnRounds_143 : decode cX8_learnRounds 143 = .ok (.goto 5, 3) := by decide +kernel
theorem dX8_learnRounds_146 : decode cX8_learnRounds 146 = .ok (.bipush 9, 2) := by decide +kernel
theorem dX8_learnRounds_148 : decode cX8_learnRounds 148 = .ok (.iastore, 1) := by decide +kernel
theorem dX8_learnRounds_149 : decode cX8_learnRounds 149 = .ok (.iload_n 2, 1) := by decide +kernel
theorem dX8_learnRounds_150 : decode cX8_learnRounds 150 = .ok (.iload 6, 2) := by decide +kernel
theorem dX8_learnRounds_152 : decode cX8_learnRounds 152 = .ok (.ior, 1) := by decide +kernel
theorem dX8_learnRounds_153 : decode cX8_learnRounds 153 = .ok (.istore_n 2, 1) := by decide +kernel
theorem dX8_learnRounds_154 : decode cX8_learnRounds 154 = .ok (.iinc 4 1, 3) := by decide +kernel
theorem dX8_learnRounds_157 : decode cX8_learnRounds 157 = .ok (.goto (-140), 3) := by decide +kernel
theorem dX8_learnRounds_160 : decode cX8_learnRounds 160 = .ok (.iinc 3 1, 3) := by decide +kernel
theorem dX8_learnRounds_163 : decode cX8_learnRounds 163 = .ok (.goto (-159), 3) := by decide +kernel
theorem dX8_learnRounds_166 : decode cX8_learnRounds 166 = .ok (.iload_n 2, 1) := by decide +kernel
theorem dX8_learnRounds_167 : decode cX8_learnRounds 167 = .ok (.ireturn, 1) := by decide +kernel
theorem dX8_bidForces_0 : decode cX8_bidForces 0 = .ok (.iload 4, 2) := by decide +kernel
theorem dX8_bidForces_2 : decode cX8_bidForces 2 = .ok (.istore 5, 2) := by decide +kernel
theorem dX8_bidForces_4 : decode cX8_bidForces 4 = .ok (.iload 5, 2) := by decide +kernel
theorem dX8_bidForces_6 : decode cX8_bidForces 6 = .ok (.ifCond .lt 24, 3) := by decide +kernel
theorem dX8_bidForces_9 : decode cX8_bidForces 9 = .ok (.aload_n 0, 1) := by decide +kernel
theorem dX8_bidForces_10 : decode cX8_bidForces 10 = .ok (.iload_n 1, 1) := by decide +kernel
theorem dX8_bidForces_11 : decode cX8_bidForces 11 = .ok (.iload_n 2, 1) := by decide +kernel
theorem dX8_bidForces_12 : decode cX8_bidForces 12 = .ok (.iload_n 3, 1) := by decide +kernel
theorem dX8_bidForces_13 : decode cX8_bidForces 13 = .ok (.iload 4, 2) := by decide +kernel
theorem dX8_bidForces_15 : decode cX8_bidForces 15 = .ok (.iload 5, 2) := by decide +kernel
theorem dX8_bidForces_17 : decode cX8_bidForces 17 = .ok (.iconst 0, 1) := by decide +kernel
theorem dX8_bidForces_18 : decode cX8_bidForces 18 = .ok (.invokevirtual 52, 3) := by decide +kernel
theorem dX8_bidForces_21 : decode cX8_bidForces 21 = .ok (.ifCond .eq 9, 3) := by decide +kernel
theorem dX8_bidForces_24 : decode cX8_bidForces 24 = .ok (.iinc 5 (-1), 3) := by decide +kernel
theorem dX8_bidForces_27 : decode cX8_bidForces 27 = .ok (.goto (-23), 3) := by decide +kernel
theorem dX8_bidForces_30 : decode cX8_bidForces 30 = .ok (.iconst 0, 1) := by decide +kernel
theorem dX8_bidForces_31 : decode cX8_bidForces 31 = .ok (.iload 5, 2) := by decide +kernel
theorem dX8_bidForces_33 : decode cX8_bidForces 33 = .ok (.aload_n 0, 1) := by decide +kernel
theorem dX8_bidForces_34 : decode cX8_bidForces 34 = .ok (.getfield 15, 3) := by decide +kernel
theorem dX8_bidForces_37 : decode cX8_bidForces 37 = .ok (.iadd, 1) := by decide +kernel
theorem dX8_bidForces_38 : decode cX8_bidForces 38 = .ok (.invokestatic 25, 3) := by decide +kernel
theorem dX8_bidForces_41 : decode cX8_bidForces 41 = .ok (.istore 6, 2) := by decide +kernel
theorem dX8_bidForces_43 : decode cX8_bidForces 43 = .ok (.iload 6, 2) := by decide +kernel
theorem dX8_bidForces_45 : decode cX8_bidForces 45 = .ok (.iload_n 3, 1) := by decide +kernel
theorem dX8_bidForces_46 : decode cX8_bidForces 46 = .ok (.if_icmp .gt 35, 3) := by decide +kernel
theorem dX8_bidForces_49 : decode cX8_bidForces 49 = .ok (.aload_n 0, 1) := by decide +kernel
theorem dX8_bidForces_50 : decode cX8_bidForces 50 = .ok (.iload 6, 2) := by decide +kernel
theorem dX8_bidForces_52 : decode cX8_bidForces 52 = .ok (.invokevirtual 56, 3) := by decide +kernel
theorem dX8_bidForces_55 : decode cX8_bidForces 55 = .ok (.ifCond .ne 18, 3) := by decide +kernel
theorem dX8_bidForces_58 : decode cX8_bidForces 58 = .ok (.aload_n 0, 1) := by decide +kernel
theorem dX8_bidForces_59 : decode cX8_bidForces 59 = .ok (.iload_n 1, 1) := by decide +kernel
theorem dX8_bidForces_60 : decode cX8_bidForces 60 = .ok (.iload_n 2, 1) := by decide +kernel
theorem dX8_bidForces_61 : decode cX8_bidForces 61 = .ok (.iload_n 3, 1) := by decide +kernel
theorem dX8_bidForces_62 : decode cX8_bidForces 62 = .ok (.iload 4, 2) := by decide +kernel
theorem dX8_bidForces_64 : decode cX8_bidForces 64 = .ok (.iload 6, 2) := by decide +kernel
theorem dX8_bidForces_66 : decode cX8_bidForces 66 = .ok (.iconst 0, 1) := by decide +kernel
theorem dX8_bidForces_67 : decode cX8_bidForces 67 = .ok (.invokevirtual 59, 3) := by decide +kernel
theorem dX8_bidForces_70 : decode cX8_bidForces 70 = .ok (.ifCond .eq 5, 3) := by decide +kernel
theorem dX8_bidForces_73 : decode cX8_bidForces 73 = .ok (.iconst 1, 1) := by decide +kernel
theorem dX8_bidForces_74 : decode cX8_bidForces 74 = .ok (.ireturn, 1) := by decide +kernel
theorem dX8_bidForces_75 : decode cX8_bidForces 75 = .ok (.iinc 6 1, 3) := by decide +kernel
theorem dX8_bidForces_78 : decode cX8_bidForces 78 = .ok (.goto (-35), 3) := by decide +kernel
theorem dX8_bidForces_81 : decode cX8_bidForces 81 = .ok (.iconst 0, 1) := by decide +kernel
theorem dX8_bidForces_82 : decode cX8_bidForces 82 = .ok (.ireturn, 1) := by decide +kernel
theorem dX8_answerForces_0 : decode cX8_answerForces 0 = .ok (.iload_n 3, 1) := by decide +kernel
theorem dX8_answerForces_1 : decode cX8_answerForces 1 = .ok (.istore 5, 2) := by decide +kernel
theorem dX8_answerForces_3 : decode cX8_answerForces 3 = .ok (.iload 5, 2) := by decide +kernel
theorem dX8_answerForces_5 : decode cX8_answerForces 5 = .ok (.ifCond .lt 24, 3) := by decide +kernel
theorem dX8_answerForces_8 : decode cX8_answerForces 8 = .ok (.aload_n 0, 1) := by decide +kernel
theorem dX8_answerForces_9 : decode cX8_answerForces 9 = .ok (.iload_n 1, 1) := by decide +kernel
theorem dX8_answerForces_10 : decode cX8_answerForces 10 = .ok (.iload_n 2, 1) := by decide +kernel
theorem dX8_answerForces_11 : decode cX8_answerForces 11 = .ok (.iload_n 3, 1) := by decide +kernel
theorem dX8_answerForces_12 : decode cX8_answerForces 12 = .ok (.iload 4, 2) := by decide +kernel
theorem dX8_answerForces_14 : decode cX8_answerForces 14 = .ok (.iload 5, 2) := by decide +kernel
theorem dX8_answerForces_16 : decode cX8_answerForces 16 = .ok (.iconst 1, 1) := by decide +kernel
theorem dX8_answerForces_17 : decode cX8_answerForces 17 = .ok (.invokevirtual 59, 3) := by decide +kernel
theorem dX8_answerForces_20 : decode cX8_answerForces 20 = .ok (.ifCond .ne 9, 3) := by decide +kernel
theorem dX8_answerForces_23 : decode cX8_answerForces 23 = .ok (.iinc 5 (-1), 3) := by decide +kernel
theorem dX8_answerForces_26 : decode cX8_answerForces 26 = .ok (.goto (-23), 3) := by decide +kernel
theorem dX8_answerForces_29 : decode cX8_answerForces 29 = .ok (.iconst 0, 1) := by decide +kernel
theorem dX8_answerForces_30 : decode cX8_answerForces 30 = .ok (.iload 5, 2) := by decide +kernel
theorem dX8_answerForces_32 : decode cX8_answerForces 32 = .ok (.aload_n 0, 1) := by decide +kernel
theorem dX8_answerForces_33 : decode cX8_answerForces 33 = .ok (.getfield 15, 3) := by decide +kernel
theorem dX8_answerForces_36 : decode cX8_answerForces 36 = .ok (.iadd, 1) := by decide +kernel
theorem dX8_answerForces_37 : decode cX8_answerForces 37 = .ok (.invokestatic 25, 3) := by decide +kernel
theorem dX8_answerForces_40 : decode cX8_answerForces 40 = .ok (.istore 6, 2) := by decide +kernel
theorem dX8_answerForces_42 : decode cX8_answerForces 42 = .ok (.iload 6, 2) := by decide +kernel
theorem dX8_answerForces_44 : decode cX8_answerForces 44 = .ok (.iload 4, 2) := by decide +kernel
theorem dX8_answerForces_46 : decode cX8_answerForces 46 = .ok (.if_icmp .gt 35, 3) := by decide +kernel
theorem dX8_answerForces_49 : decode cX8_answerForces 49 = .ok (.aload_n 0, 1) := by decide +kernel
theorem dX8_answerForces_50 : decode cX8_answerForces 50 = .ok (.iload 6, 2) := by decide +kernel
theorem dX8_answerForces_52 : decode cX8_answerForces 52 = .ok (.invokevirtual 56, 3) := by decide +kernel
theorem dX8_answerForces_55 : decode cX8_answerForces 55 = .ok (.ifCond .ne 18, 3) := by decide +kernel
theorem dX8_answerForces_58 : decode cX8_answerForces 58 = .ok (.aload_n 0, 1) := by decide +kernel
theorem dX8_answerForces_59 : decode cX8_answerForces 59 = .ok (.iload_n 1, 1) := by decide +kernel
theorem dX8_answerForces_60 : decode cX8_answerForces 60 = .ok (.iload_n 2, 1) := by decide +kernel
theorem dX8_answerForces_61 : decode cX8_answerForces 61 = .ok (.iload_n 3, 1) := by decide +kernel
theorem dX8_answerForces_62 : decode cX8_answerForces 62 = .ok (.iload 4, 2) := by decide +kernel
theorem dX8_answerForces_64 : decode cX8_answerForces 64 = .ok (.iload 6, 2) := by decide +kernel
theorem dX8_answerForces_66 : decode cX8_answerForces 66 = .ok (.iconst 1, 1) := by decide +kernel
theorem dX8_answerForces_67 : decode cX8_answerForces 67 = .ok (.invokevirtual 52, 3) := by decide +kernel
theorem dX8_answerForces_70 : decode cX8_answerForces 70 = .ok (.ifCond .ne 5, 3) := by decide +kernel
theorem dX8_answerForces_73 : decode cX8_answerForces 73 = .ok (.iconst 0, 1) := by decide +kernel
theorem dX8_answerForces_74 : decode cX8_answerForces 74 = .ok (.ireturn, 1) := by decide +kernel
theorem dX8_answerForces_75 : decode cX8_answerForces 75 = .ok (.iinc 6 1, 3) := by decide +kernel
theorem dX8_answerForces_78 : decode cX8_answerForces 78 = .ok (.goto (-36), 3) := by decide +kernel
theorem dX8_answerForces_81 : decode cX8_answerForces 81 = .ok (.iconst 1, 1) := by decide +kernel
theorem dX8_answerForces_82 : decode cX8_answerForces 82 = .ok (.ireturn, 1) := by decide +kernel
theorem dX8_neverTakes_0 : decode cX8_neverTakes 0 = .ok (.iload_n 1, 1) := by decide +kernel
theorem dX8_neverTakes_1 : decode cX8_neverTakes 1 = .ok (.ifCond .ne 15, 3) := by decide +kernel
theorem dX8_neverTakes_4 : decode cX8_neverTakes 4 = .ok (.aload_n 0, 1) := by decide +kernel
theorem dX8_neverTakes_5 : decode cX8_neverTakes 5 = .ok (.getfield 15, 3) := by decide +kernel
theorem dX8_neverTakes_8 : decode cX8_neverTakes 8 = .ok (.iconst 1, 1) := by decide +kernel
theorem dX8_neverTakes_9 : decode cX8_neverTakes 9 = .ok (.if_icmp .ne 7, 3) := by decide +kernel
theorem dX8_neverTakes_12 : decode cX8_neverTakes 12 = .ok (.iconst 1, 1) := by decide +kernel
theorem dX8_neverTakes_13 : decode cX8_neverTakes 13 = .ok (.goto 4, 3) := by decide +kernel
theorem dX8_neverTakes_16 : decode cX8_neverTakes 16 = .ok (.iconst 0, 1) := by decide +kernel
theorem dX8_neverTakes_17 : decode cX8_neverTakes 17 = .ok (.ireturn, 1) := by decide +kernel
theorem dX8_taken_0 : decode cX8_taken 0 = .ok (.aload_n 0, 1) := by decide +kernel
theorem dX8_taken_1 : decode cX8_taken 1 = .ok (.getfield 18, 3) := by decide +kernel
theorem dX8_taken_4 : decode cX8_taken 4 = .ok (.ifCond .eq 8, 3) := by decide +kernel
theorem dX8_taken_7 : decode cX8_taken 7 = .ok (.iload 5, 2) := by decide +kernel
theorem dX8_taken_9 : decode cX8_taken 9 = .ok (.goto 4, 3) := by decide +kernel
theorem dX8_taken_12 : decode cX8_taken 12 = .ok (.iconst 0, 1) := by decide +kernel
theorem dX8_taken_13 : decode cX8_taken 13 = .ok (.istore 7, 2) := by decide +kernel
theorem dX8_taken_15 : decode cX8_taken 15 = .ok (.aload_n 0, 1) := by decide +kernel
theorem dX8_taken_16 : decode cX8_taken 16 = .ok (.iload_n 2, 1) := by decide +kernel
theorem dX8_taken_17 : decode cX8_taken 17 = .ok (.iconst 1, 1) := by decide +kernel
theorem dX8_taken_18 : decode cX8_taken 18 = .ok (.isub, 1) := by decide +kernel
theorem dX8_taken_19 : decode cX8_taken 19 = .ok (.iload_n 3, 1) := by decide +kernel
theorem dX8_taken_20 : decode cX8_taken 20 = .ok (.iload 5, 2) := by decide +kernel
theorem dX8_taken_22 : decode cX8_taken 22 = .ok (.isub, 1) := by decide +kernel
theorem dX8_taken_23 : decode cX8_taken 23 = .ok (.iload 4, 2) := by decide +kernel
theorem dX8_taken_25 : decode cX8_taken 25 = .ok (.iload 7, 2) := by decide +kernel
theorem dX8_taken_27 : decode cX8_taken 27 = .ok (.iadd, 1) := by decide +kernel
theorem dX8_taken_28 : decode cX8_taken 28 = .ok (.iload 6, 2) := by decide +kernel
theorem dX8_taken_30 : decode cX8_taken 30 = .ok (.invokevirtual 62, 3) := by decide +kernel
theorem dX8_taken_33 : decode cX8_taken 33 = .ok (.iload_n 1, 1) := by decide +kernel
theorem dX8_taken_34 : decode cX8_taken 34 = .ok (.if_icmp .gt 7, 3) := by decide +kernel
theorem dX8_taken_37 : decode cX8_taken 37 = .ok (.iconst 1, 1) := by decide +kernel
theorem dX8_taken_38 : decode cX8_taken 38 = .ok (.goto 4, 3) := by decide +kernel
theorem dX8_taken_41 : decode cX8_taken 41 = .ok (.iconst 0, 1) := by decide +kernel
theorem dX8_taken_42 : decode cX8_taken 42 = .ok (.ireturn, 1) := by decide +kernel
theorem dX8_lost_0 : decode cX8_lost 0 = .ok (.aload_n 0, 1) := by decide +kernel
theorem dX8_lost_1 : decode cX8_lost 1 = .ok (.getfield 18, 3) := by decide +kernel
theorem dX8_lost_4 : decode cX8_lost 4 = .ok (.ifCond .eq 8, 3) := by decide +kernel
theorem dX8_lost_7 : decode cX8_lost 7 = .ok (.iload 5, 2) := by decide +kernel
theorem dX8_lost_9 : decode cX8_lost 9 = .ok (.goto 4, 3) := by decide +kernel
theorem dX8_lost_12 : decode cX8_lost 12 = .ok (.iconst 0, 1) := by decide +kernel
theorem dX8_lost_13 : decode cX8_lost 13 = .ok (.istore 7, 2) := by decide +kernel
theorem dX8_lost_15 : decode cX8_lost 15 = .ok (.aload_n 0, 1) := by decide +kernel
theorem dX8_lost_16 : decode cX8_lost 16 = .ok (.iload_n 2, 1) := by decide +kernel
theorem dX8_lost_17 : decode cX8_lost 17 = .ok (.iconst 1, 1) := by decide +kernel
theorem dX8_lost_18 : decode cX8_lost 18 = .ok (.iadd, 1) := by decide +kernel
theorem dX8_lost_19 : decode cX8_lost 19 = .ok (.iload_n 3, 1) := by decide +kernel
theorem dX8_lost_20 : decode cX8_lost 20 = .ok (.iload 7, 2) := by decide +kernel
theorem dX8_lost_22 : decode cX8_lost 22 = .ok (.iadd, 1) := by decide +kernel
theorem dX8_lost_23 : decode cX8_lost 23 = .ok (.iload 4, 2) := by decide +kernel
theorem dX8_lost_25 : decode cX8_lost 25 = .ok (.iload 5, 2) := by decide +kernel
theorem dX8_lost_27 : decode cX8_lost 27 = .ok (.isub, 1) := by decide +kernel
theorem dX8_lost_28 : decode cX8_lost 28 = .ok (.iload 6, 2) := by decide +kernel
theorem dX8_lost_30 : decode cX8_lost 30 = .ok (.invokevirtual 62, 3) := by decide +kernel
theorem dX8_lost_33 : decode cX8_lost 33 = .ok (.iload_n 1, 1) := by decide +kernel
theorem dX8_lost_34 : decode cX8_lost 34 = .ok (.if_icmp .gt 7, 3) := by decide +kernel
theorem dX8_lost_37 : decode cX8_lost 37 = .ok (.iconst 1, 1) := by decide +kernel
theorem dX8_lost_38 : decode cX8_lost 38 = .ok (.goto 4, 3) := by decide +kernel
theorem dX8_lost_41 : decode cX8_lost 41 = .ok (.iconst 0, 1) := by decide +kernel
theorem dX8_lost_42 : decode cX8_lost 42 = .ok (.ireturn, 1) := by decide +kernel
theorem dX9_init_0 : decode cX9_init 0 = .ok (.aload_n 0, 1) := by decide +kernel
theorem dX9_init_1 : decode cX9_init 1 = .ok (.invokespecial 3, 3) := by decide +kernel
theorem dX9_init_4 : decode cX9_init 4 = .ok (.aload_n 0, 1) := by decide +kernel
theorem dX9_init_5 : decode cX9_init 5 = .ok (.new 9, 3) := by decide +kernel
theorem dX9_init_8 : decode cX9_init 8 = .ok (.dup, 1) := by decide +kernel
theorem dX9_init_9 : decode cX9_init 9 = .ok (.invokespecial 11, 3) := by decide +kernel
theorem dX9_init_12 : decode cX9_init 12 = .ok (.putfield 12, 3) := by decide +kernel
theorem dX9_init_15 : decode cX9_init 15 = .ok (.aload_n 0, 1) := by decide +kernel
theorem dX9_init_16 : decode cX9_init 16 = .ok (.new 16, 3) := by decide +kernel
theorem dX9_init_19 : decode cX9_init 19 = .ok (.dup, 1) := by decide +kernel
theorem dX9_init_20 : decode cX9_init 20 = .ok (.invokespecial 18, 3) := by decide +kernel
theorem dX9_init_23 : decode cX9_init 23 = .ok (.putfield 19, 3) := by decide +kernel
theorem dX9_init_26 : decode cX9_init 26 = .ok (.aload_n 0, 1) := by decide +kernel
theorem dX9_init_27 : decode cX9_init 27 = .ok (.new 23, 3) := by decide +kernel
theorem dX9_init_30 : decode cX9_init 30 = .ok (.dup, 1) := by decide +kernel
theorem dX9_init_31 : decode cX9_init 31 = .ok (.invokespecial 25, 3) := by decide +kernel
theorem dX9_init_34 : decode cX9_init 34 = .ok (.putfield 26, 3) := by decide +kernel
theorem dX9_init_37 : decode cX9_init 37 = .ok (.aload_n 0, 1) := by decide +kernel
theorem dX9_init_38 : decode cX9_init 38 = .ok (.new 23, 3) := by decide +kernel
theorem dX9_init_41 : decode cX9_init 41 = .ok (.dup, 1) := by decide +kernel
theorem dX9_init_42 : decode cX9_init 42 = .ok (.invokespecial 25, 3) := by decide +kernel
theorem dX9_init_45 : decode cX9_init 45 = .ok (.putfield 30, 3) := by decide +kernel
theorem dX9_init_48 : decode cX9_init 48 = .ok (.aload_n 0, 1) := by decide +kernel
theorem dX9_init_49 : decode cX9_init 49 = .ok (.new 33, 3) := by decide +kernel
theorem dX9_init_52 : decode cX9_init 52 = .ok (.dup, 1) := by decide +kernel
theorem dX9_init_53 : decode cX9_init 53 = .ok (.invokespecial 35, 3) := by decide +kernel
theorem dX9_init_56 : decode cX9_init 56 = .ok (.putfield 36, 3) := by decide +kernel
theorem dX9_init_59 : decode cX9_init 59 = .ok (.aload_n 0, 1) := by decide +kernel
theorem dX9_init_60 : decode cX9_init 60 = .ok (.new 40, 3) := by decide +kernel
theorem dX9_init_63 : decode cX9_init 63 = .ok (.dup, 1) := by decide +kernel
theorem dX9_init_64 : decode cX9_init 64 = .ok (.invokespecial 42, 3) := by decide +kernel
theorem dX9_init_67 : decode cX9_init 67 = .ok (.putfield 43, 3) := by decide +kernel
theorem dX9_init_70 : decode cX9_init 70 = .ok (.aload_n 0, 1) := by decide +kernel
theorem dX9_init_71 : decode cX9_init 71 = .ok (.new 47, 3) := by decide +kernel
theorem dX9_init_74 : decode cX9_init 74 = .ok (.dup, 1) := by decide +kernel
theorem dX9_init_75 : decode cX9_init 75 = .ok (.aload_n 0, 1) := by decide +kernel
theorem dX9_init_76 : decode cX9_init 76 = .ok (.getfield 12, 3) := by decide +kernel
theorem dX9_init_79 : decode cX9_init 79 = .ok (.invokespecial 49, 3) := by decide +kernel
theorem dX9_init_82 : decode cX9_init 82 = .ok (.putfield 52, 3) := by decide +kernel
theorem dX9_init_85 : decode cX9_init 85 = .ok (.aload_n 0, 1) := by decide +kernel
theorem dX9_init_86 : decode cX9_init 86 = .ok (.new 56, 3) := by decide +kernel
theorem dX9_init_89 : decode cX9_init 89 = .ok (.dup, 1) := by decide +kernel
theorem dX9_init_90 : decode cX9_init 90 = .ok (.aload_n 0, 1) := by decide +kernel
theorem dX9_init_91 : decode cX9_init 91 = .ok (.getfield 12, 3) := by decide +kernel
theorem dX9_init_94 : decode cX9_init 94 = .ok (.invokespecial 58, 3) := by decide +kernel
theorem dX9_init_97 : decode cX9_init 97 = .ok (.putfield 59, 3) := by decide +kernel
theorem dX9_init_100 : decode cX9_init 100 = .ok (.return_, 1) := by decide +kernel
theorem dX9_set_0 : decode cX9_set 0 = .ok (.iload_n 1, 1) := by decide +kernel
theorem dX9_set_1 : decode cX9_set 1 = .ok (.invokestatic 63, 3) := by decide +kernel
theorem dX9_set_4 : decode cX9_set 4 = .ok (.ifCond .eq 19, 3) := by decide +kernel
theorem dX9_set_7 : decode cX9_set 7 = .ok (.iload_n 2, 1) := by decide +kernel
theorem dX9_set_8 : decode cX9_set 8 = .ok (.iload_n 1, 1) := by decide +kernel
theorem dX9_set_9 : decode cX9_set 9 = .ok (.invokestatic 67, 3) := by decide +kernel
theorem dX9_set_12 : decode cX9_set 12 = .ok (.if_icmp .lt 11, 3) := by decide +kernel
theorem dX9_set_15 : decode cX9_set 15 = .ok (.iload_n 2, 1) := by decide +kernel
theorem dX9_set_16 : decode cX9_set 16 = .ok (.iload_n 1, 1) := by decide +kernel
theorem dX9_set_17 : decode cX9_set 17 = .ok (.invokestatic 71, 3) := by decide +kernel
theorem dX9_set_20 : decode cX9_set 20 = .ok (.if_icmp .le 7, 3) := by decide +kernel
theorem dX9_set_23 : decode cX9_set 23 = .ok (.sipush (-1002), 3) := by decide +kernel
theorem dX9_set_26 : decode cX9_set 26 = .ok (.ireturn, 1) := by decide +kernel
theorem dX9_set_27 : decode cX9_set 27 = .ok (.aload_n 0, 1) := by decide +kernel
theorem dX9_set_28 : decode cX9_set 28 = .ok (.getfield 12, 3) := by decide +kernel
theorem dX9_set_31 : decode cX9_set 31 = .ok (.iload_n 1, 1) := by decide +kernel
theorem dX9_set_32 : decode cX9_set 32 = .ok (.invokevirtual 74, 3) := by decide +kernel
theorem dX9_set_35 : decode cX9_set 35 = .ok (.istore_n 3, 1) := by decide +kernel
theorem dX9_set_36 : decode cX9_set 36 = .ok (.aload_n 0, 1) := by decide +kernel
theorem dX9_set_37 : decode cX9_set 37 = .ok (.getfield 19, 3) := by decide +kernel
theorem dX9_set_40 : decode cX9_set 40 = .ok (.aload_n 0, 1) := by decide +kernel
theorem dX9_set_41 : decode cX9_set 41 = .ok (.getfield 12, 3) := by decide +kernel
theorem dX9_set_44 : decode cX9_set 44 = .ok (.invokevirtual 77, 3) := by decide +kernel
theorem dX9_set_47 : decode cX9_set 47 = .ok (.aload_n 0, 1) := by decide +kernel
theorem dX9_set_48 : decode cX9_set 48 = .ok (.getfield 12, 3) := by decide +kernel
theorem dX9_set_51 : decode cX9_set 51 = .ok (.iload_n 1, 1) := by decide +kernel
theorem dX9_set_52 : decode cX9_set 52 = .ok (.iload_n 2, 1) := by decide +kernel
theorem dX9_set_53 : decode cX9_set 53 = .ok (.invokevirtual 80, 3) := by decide +kernel
theorem dX9_set_56 : decode cX9_set 56 = .ok (.aload_n 0, 1) := by decide +kernel
theorem dX9_set_57 : decode cX9_set 57 = .ok (.getfield 12, 3) := by decide +kernel
theorem dX9_set_60 : decode cX9_set 60 = .ok (.invokevirtual 84, 3) := by decide +kernel
theorem dX9_set_63 : decode cX9_set 63 = .ok (.iload_n 3, 1) := by decide +kernel
theorem dX9_set_64 : decode cX9_set 64 = .ok (.ireturn, 1) := by decide +kernel
theorem dX9_begin_0 : decode cX9_begin 0 = .ok (.iload_n 1, 1) := by decide +kernel
theorem dX9_begin_1 : decode cX9_begin 1 = .ok (.iconst 0, 1) := by decide +kernel
theorem dX9_begin_2 : decode cX9_begin 2 = .ok (.bipush 6, 2) := by decide +kernel
theorem dX9_begin_4 : decode cX9_begin 4 = .ok (.invokestatic 87, 3) := by decide +kernel
theorem dX9_begin_7 : decode cX9_begin 7 = .ok (.ifCond .eq 13, 3) := by decide +kernel
theorem dX9_begin_10 : decode cX9_begin 10 = .ok (.iload_n 2, 1) := by decide +kernel
theorem dX9_begin_11 : decode cX9_begin 11 = .ok (.iconst 0, 1) := by decide +kernel
theorem dX9_begin_12 : decode cX9_begin 12 = .ok (.bipush 6, 2) := by decide +kernel
theorem dX9_begin_14 : decode cX9_begin 14 = .ok (.invokestatic 87, 3) := by decide +kernel
theorem dX9_begin_17 : decode cX9_begin 17 = .ok (.ifCond .ne 7, 3) := by decide +kernel
theorem dX9_begin_20 : decode cX9_begin 20 = .ok (.sipush (-1002), 3) := by decide +kernel
theorem dX9_begin_23 : decode cX9_begin 23 = .ok (.ireturn, 1) := by decide +kernel
theorem dX9_begin_24 : decode cX9_begin 24 = .ok (.aload_n 0, 1) := by decide +kernel
theorem dX9_begin_25 : decode cX9_begin 25 = .ok (.getfield 12, 3) := by decide +kernel
theorem dX9_begin_28 : decode cX9_begin 28 = .ok (.getfield 91, 3) := by decide +kernel
theorem dX9_begin_31 : decode cX9_begin 31 = .ok (.istore_n 3, 1) := by decide +kernel
theorem dX9_begin_32 : decode cX9_begin 32 = .ok (.aload_n 0, 1) := by decide +kernel
theorem dX9_begin_33 : decode cX9_begin 33 = .ok (.getfield 19, 3) := by decide +kernel
theorem dX9_begin_36 : decode cX9_begin 36 = .ok (.aload_n 0, 1) := by decide +kernel
theorem dX9_begin_37 : decode cX9_begin 37 = .ok (.getfield 12, 3) := by decide +kernel
theorem dX9_begin_40 : decode cX9_begin 40 = .ok (.invokevirtual 77, 3) := by decide +kernel
theorem dX9_begin_43 : decode cX9_begin 43 = .ok (.aload_n 0, 1) := by decide +kernel
theorem dX9_begin_44 : decode cX9_begin 44 = .ok (.getfield 12, 3) := by decide +kernel
theorem dX9_begin_47 : decode cX9_begin 47 = .ok (.getfield 95, 3) := by decide +kernel
theorem dX9_begin_50 : decode cX9_begin 50 = .ok (.iload_n 1, 1) := by decide +kernel
theorem dX9_begin_51 : decode cX9_begin 51 = .ok (.putfield 99, 3) := by decide +kernel
theorem dX9_begin_54 : decode cX9_begin 54 = .ok (.aload_n 0, 1) := by decide +kernel
theorem dX9_begin_55 : decode cX9_begin 55 = .ok (.getfield 12, 3) := by decide +kernel
theorem dX9_begin_58 : decode cX9_begin 58 = .ok (.getfield 104, 3) := by decide +kernel
theorem dX9_begin_61 : decode cX9_begin 61 = .ok (.iload_n 2, 1) := by decide +kernel
theorem dX9_begin_62 : decode cX9_begin 62 = .ok (.putfield 99, 3) := by decide +kernel
theorem dX9_begin_65 : decode cX9_begin 65 = .ok (.aload_n 0, 1) := by decide +kernel
theorem dX9_begin_66 : decode cX9_begin 66 = .ok (.getfield 12, 3) := by decide +kernel
theorem dX9_begin_69 : decode cX9_begin 69 = .ok (.invokevirtual 84, 3) := by decide +kernel
theorem dX9_begin_72 : decode cX9_begin 72 = .ok (.iload_n 3, 1) := by decide +kernel
theorem dX9_begin_73 : decode cX9_begin 73 = .ok (.ireturn, 1) := by decide +kernel
theorem dX9_round_0 : decode cX9_round 0 = .ok (.iload_n 1, 1) := by decide +kernel
theorem dX9_round_1 : decode cX9_round 1 = .ok (.iconst 0, 1) := by decide +kernel
theorem dX9_round_2 : decode cX9_round 2 = .ok (.bipush 14, 2) := by decide +kernel
theorem dX9_round_4 : decode cX9_round 4 = .ok (.invokestatic 87, 3) := by decide +kernel
theorem dX9_round_7 : decode cX9_round 7 = .ok (.ifCond .eq 13, 3) := by decide +kernel
theorem dX9_round_10 : decode cX9_round 10 = .ok (.iload_n 2, 1) := by decide +kernel
theorem dX9_round_11 : decode cX9_round 11 = .ok (.iconst 0, 1) := by decide +kernel
theorem dX9_round_12 : decode cX9_round 12 = .ok (.bipush 14, 2) := by decide +kernel
theorem dX9_round_14 : decode cX9_round 14 = .ok (.invokestatic 87, 3) := by decide +kernel
theorem dX9_round_17 : decode cX9_round 17 = .ok (.ifCond .ne 7, 3) := by decide +kernel
theorem dX9_round_20 : decode cX9_round 20 = .ok (.sipush (-1002), 3) := by decide +kernel
theorem dX9_round_23 : decode cX9_round 23 = .ok (.ireturn, 1) := by decide +kernel
theorem dX9_round_24 : decode cX9_round 24 = .ok (.aload_n 0, 1) := by decide +kernel
theorem dX9_round_25 : decode cX9_round 25 = .ok (.getfield 12, 3) := by decide +kernel
theorem dX9_round_28 : decode cX9_round 28 = .ok (.iload_n 1, 1) := by decide +kernel
theorem dX9_round_29 : decode cX9_round 29 = .ok (.iload_n 2, 1) := by decide +kernel
theorem dX9_round_30 : decode cX9_round 30 = .ok (.invokevirtual 107, 3) := by decide +kernel
theorem dX9_round_33 : decode cX9_round 33 = .ok (.ifCond .ne 7, 3) := by decide +kernel
theorem dX9_round_36 : decode cX9_round 36 = .ok (.sipush (-1005), 3) := by decide +kernel
theorem dX9_round_39 : decode cX9_round 39 = .ok (.ireturn, 1) := by decide +kernel
theorem dX9_round_40 : decode cX9_round 40 = .ok (.aload_n 0, 1) := by decide +kernel
theorem dX9_round_41 : decode cX9_round 41 = .ok (.getfield 19, 3) := by decide +kernel
theorem dX9_round_44 : decode cX9_round 44 = .ok (.aload_n 0, 1) := by decide +kernel
theorem dX9_round_45 : decode cX9_round 45 = .ok (.getfield 12, 3) := by decide +kernel
theorem dX9_round_48 : decode cX9_round 48 = .ok (.invokevirtual 77, 3) := by decide +kernel
theorem dX9_round_51 : decode cX9_round 51 = .ok (.aload_n 0, 1) := by decide +kernel
theorem dX9_round_52 : decode cX9_round 52 = .ok (.getfield 12, 3) := by decide +kernel
theorem dX9_round_55 : decode cX9_round 55 = .ok (.iload_n 1, 1) := by decide +kernel
theorem dX9_round_56 : decode cX9_round 56 = .ok (.iload_n 2, 1) := by decide +kernel
theorem dX9_round_57 : decode cX9_round 57 = .ok (.invokevirtual 111, 3) := by decide +kernel
theorem dX9_round_60 : decode cX9_round 60 = .ok (.ireturn, 1) := by decide +kernel
theorem dX9_play_0 : decode cX9_play 0 = .ok (.aload_n 0, 1) := by decide +kernel
theorem dX9_play_1 : decode cX9_play 1 = .ok (.getfield 12, 3) := by decide +kernel
theorem dX9_play_4 : decode cX9_play 4 = .ok (.invokevirtual 115, 3) := by decide +kernel
theorem dX9_play_7 : decode cX9_play 7 = .ok (.ifCond .eq 7, 3) := by decide +kernel
theorem dX9_play_10 : decode cX9_play 10 = .ok (.sipush (-1005), 3) := by decide +kernel
theorem dX9_play_13 : decode cX9_play 13 = .ok (.ireturn, 1) := by decide +kernel
theorem dX9_play_14 : decode cX9_play 14 = .ok (.aload_n 0, 1) := by decide +kernel
theorem dX9_play_15 : decode cX9_play 15 = .ok (.invokevirtual 119, 3) := by decide +kernel
theorem dX9_play_18 : decode cX9_play 18 = .ok (.astore_n 1, 1) := by decide +kernel
theorem dX9_play_19 : decode cX9_play 19 = .ok (.aload_n 0, 1) := by decide +kernel
theorem dX9_play_20 : decode cX9_play 20 = .ok (.getfield 52, 3) := by decide +kernel
theorem dX9_play_23 : decode cX9_play 23 = .ok (.aload_n 1, 1) := by decide +kernel
theorem dX9_play_24 : decode cX9_play 24 = .ok (.invokevirtual 123, 3) := by decide +kernel
theorem dX9_play_27 : decode cX9_play 27 = .ok (.istore_n 2, 1) := by decide +kernel
theorem dX9_play_28 : decode cX9_play 28 = .ok (.aload_n 0, 1) := by decide +kernel
theorem dX9_play_29 : decode cX9_play 29 = .ok (.getfield 52, 3) := by decide +kernel
theorem dX9_play_32 : decode cX9_play 32 = .ok (.aload_n 1, 1) := by decide +kernel
theorem dX9_play_33 : decode cX9_play 33 = .ok (.iload_n 2, 1) := by decide +kernel
theorem dX9_play_34 : decode cX9_play 34 = .ok (.invokevirtual 127, 3) := by decide +kernel
theorem dX9_play_37 : decode cX9_play 37 = .ok (.istore_n 3, 1) := by decide +kernel
theorem dX9_play_38 : decode cX9_play 38 = .ok (.aload_n 0, 1) := by decide +kernel
theorem dX9_play_39 : decode cX9_play 39 = .ok (.getfield 19, 3) := by decide +kernel
theorem dX9_play_42 : decode cX9_play 42 = .ok (.aload_n 0, 1) := by decide +kernel
theorem dX9_play_43 : decode cX9_play 43 = .ok (.getfield 12, 3) := by decide +kernel
theorem dX9_play_46 : decode cX9_play 46 = .ok (.invokevirtual 77, 3) := by decide +kernel
theorem dX9_play_49 : decode cX9_play 49 = .ok (.aload_n 0, 1) := by decide +kernel
theorem dX9_play_50 : decode cX9_play 50 = .ok (.getfield 12, 3) := by decide +kernel
theorem dX9_play_53 : decode cX9_play 53 = .ok (.iload_n 2, 1) := by decide +kernel
theorem dX9_play_54 : decode cX9_play 54 = .ok (.iload_n 3, 1) := by decide +kernel
theorem dX9_play_55 : decode cX9_play 55 = .ok (.invokevirtual 111, 3) := by decide +kernel
theorem dX9_play_58 : decode cX9_play 58 = .ok (.ireturn, 1) := by decide +kernel
theorem dX9_run_0 : decode cX9_run 0 = .ok (.aload_n 0, 1) := by decide +kernel
theorem dX9_run_1 : decode cX9_run 1 = .ok (.getfield 36, 3) := by decide +kernel
theorem dX9_run_4 : decode cX9_run 4 = .ok (.invokevirtual 131, 3) := by decide +kernel
theorem dX9_run_7 : decode cX9_run 7 = .ok (.sipush (-1006), 3) := by decide +kernel
theorem dX9_run_10 : decode cX9_run 10 = .ok (.if_icmp .eq 7, 3) := by decide +kernel
theorem dX9_run_13 : decode cX9_run 13 = .ok (.sipush (-1003), 3) := by decide +kernel
theorem dX9_run_16 : decode cX9_run 16 = .ok (.ireturn, 1) := by decide +kernel
theorem dX9_run_17 : decode cX9_run 17 = .ok (.aload_n 0, 1) := by decide +kernel
theorem dX9_run_18 : decode cX9_run 18 = .ok (.getfield 19, 3) := by decide +kernel
theorem dX9_run_21 : decode cX9_run 21 = .ok (.aload_n 0, 1) := by decide +kernel
theorem dX9_run_22 : decode cX9_run 22 = .ok (.getfield 12, 3) := by decide +kernel
theorem dX9_run_25 : decode cX9_run 25 = .ok (.invokevirtual 77, 3) := by decide +kernel
theorem dX9_run_28 : decode cX9_run 28 = .ok (.aload_n 0, 1) := by decide +kernel
theorem dX9_run_29 : decode cX9_run 29 = .ok (.invokevirtual 135, 3) := by decide +kernel
theorem dX9_run_32 : decode cX9_run 32 = .ok (.istore_n 1, 1) := by decide +kernel
theorem dX9_run_33 : decode cX9_run 33 = .ok (.aload_n 0, 1) := by decide +kernel
theorem dX9_run_34 : decode cX9_run 34 = .ok (.getfield 36, 3) := by decide +kernel
theorem dX9_run_37 : decode cX9_run 37 = .ok (.invokevirtual 138, 3) := by decide +kernel
theorem dX9_run_40 : decode cX9_run 40 = .ok (.iload_n 1, 1) := by decide +kernel
theorem dX9_run_41 : decode cX9_run 41 = .ok (.ireturn, 1) := by decide +kernel
theorem dX9_player_0 : decode cX9_player 0 = .ok (.iload_n 1, 1) := by decide +kernel
theorem dX9_player_1 : decode cX9_player 1 = .ok (.invokestatic 141, 3) := by decide +kernel
theorem dX9_player_4 : decode cX9_player 4 = .ok (.ifCond .ne 7, 3) := by decide +kernel
theorem dX9_player_7 : decode cX9_player 7 = .ok (.sipush (-1001), 3) := by decide +kernel
theorem dX9_player_10 : decode cX9_player 10 = .ok (.ireturn, 1) := by decide +kernel
theorem dX9_player_11 : decode cX9_player 11 = .ok (.aload_n 0, 1) := by decide +kernel
theorem dX9_player_12 : decode cX9_player 12 = .ok (.getfield 12, 3) := by decide +kernel
theorem dX9_player_15 : decode cX9_player 15 = .ok (.iload_n 1, 1) := by decide +kernel
theorem dX9_player_16 : decode cX9_player 16 = .ok (.invokevirtual 144, 3) := by decide +kernel
theorem dX9_player_19 : decode cX9_player 19 = .ok (.astore_n 3, 1) := by decide +kernel
theorem dX9_player_20 : decode cX9_player 20 = .ok (.iload_n 2, 1) := by decide +kernel
theorem dX9_player_21 : decode cX9_player 21 = .ok (.tableswitch 108 0 6 #[43, 48, 57, 62, 67, 72, 77], 43) := by decide +kernel
theorem dX9_player_64 : decode cX9_player 64 = .ok (.aload_n 3, 1) := by decide +kernel
theorem dX9_player_65 : decode cX9_player 65 = .ok (.getfield 148, 3) := by decide +kernel
theorem dX9_player_68 : decode cX9_player 68 = .ok (.ireturn, 1) := by decide +kernel
theorem dX9_player_69 : decode cX9_player 69 = .ok (.aload_n 0, 1) := by decide +kernel
theorem dX9_player_70 : decode cX9_player 70 = .ok (.getfield 12, 3) := by decide +kernel
theorem dX9_player_73 : decode cX9_player 73 = .ok (.iload_n 1, 1) := by decide +kernel
theorem dX9_player_74 : decode cX9_player 74 = .ok (.invokevirtual 151, 3) := by decide +kernel
theorem dX9_player_77 : decode cX9_player 77 = .ok (.ireturn, 1) := by decide +kernel
theorem dX9_player_78 : decode cX9_player 78 = .ok (.aload_n 3, 1) := by decide +kernel
theorem dX9_player_79 : decode cX9_player 79 = .ok (.getfield 99, 3) := by decide +kernel
theorem dX9_player_82 : decode cX9_player 82 = .ok (.ireturn, 1) := by decide +kernel
theorem dX9_player_83 : decode cX9_player 83 = .ok (.aload_n 3, 1) := by decide +kernel
theorem dX9_player_84 : decode cX9_player 84 = .ok (.getfield 154, 3) := by decide +kernel
theorem dX9_player_87 : decode cX9_player 87 = .ok (.ireturn, 1) := by decide +kernel
theorem dX9_player_88 : decode cX9_player 88 = .ok (.aload_n 3, 1) := by decide +kernel
theorem dX9_player_89 : decode cX9_player 89 = .ok (.getfield 157, 3) := by decide +kernel
theorem dX9_player_92 : decode cX9_player 92 = .ok (.ireturn, 1) := by decide +kernel
theorem dX9_player_93 : decode cX9_player 93 = .ok (.aload_n 3, 1) := by decide +kernel
theorem dX9_player_94 : decode cX9_player 94 = .ok (.getfield 160, 3) := by decide +kernel
theorem dX9_player_97 : decode cX9_player 97 = .ok (.ireturn, 1) := by decide +kernel
theorem dX9_player_98 : decode cX9_player 98 = .ok (.aload_n 0, 1) := by decide +kernel
theorem dX9_player_99 : decode cX9_player 99 = .ok (.iload_n 1, 1) := by decide +kernel
theorem dX9_player_100 : decode cX9_player 100 = .ok (.aload_n 0, 1) := by decide +kernel
theorem dX9_player_101 : decode cX9_player 101 = .ok (.getfield 12, 3) := by decide +kernel
theorem dX9_player_104 : decode cX9_player 104 = .ok (.iload_n 1, 1) := by decide +kernel
theorem dX9_player_105 : decode cX9_player 105 = .ok (.invokevirtual 151, 3) := by decide +kernel
theorem dX9_player_108 : decode cX9_player 108 = .ok (.invokevirtual 163, 3) := by decide +kernel
theorem dX9_player_111 : decode cX9_player 111 = .ok (.istore 4, 2) := by decide +kernel
theorem dX9_player_113 : decode cX9_player 113 = .ok (.iload 4, 2) := by decide +kernel
theorem dX9_player_115 : decode cX9_player 115 = .ok (.bipush 9, 2) := by decide +kernel
theorem dX9_player_117 : decode cX9_player 117 = .ok (.if_icmp .ge 8, 3) := by decide +kernel
theorem dX9_player_120 : decode cX9_player 120 = .ok (.iload 4, 2) := by decide +kernel
theorem dX9_player_122 : decode cX9_player 122 = .ok (.goto 6, 3) := by decide +kernel
theorem dX9_player_125 : decode cX9_player 125 = .ok (.sipush (-1006), 3) := by decide +kernel
theorem dX9_player_128 : decode cX9_player 128 = .ok (.ireturn, 1) := by decide +kernel
theorem dX9_player_129 : decode cX9_player 129 = .ok (.sipush (-1002), 3) := by decide +kernel
theorem dX9_player_132 : decode cX9_player 132 = .ok (.ireturn, 1) := by decide +kernel
theorem dX9_count_0 : decode cX9_count 0 = .ok (.iload_n 1, 1) := by decide +kernel
theorem dX9_count_1 : decode cX9_count 1 = .ok (.invokestatic 63, 3) := by decide +kernel
theorem dX9_count_4 : decode cX9_count 4 = .ok (.ifCond .eq 12, 3) := by decide +kernel
theorem dX9_count_7 : decode cX9_count 7 = .ok (.aload_n 0, 1) := by decide +kernel
theorem dX9_count_8 : decode cX9_count 8 = .ok (.getfield 12, 3) := by decide +kernel
theorem dX9_count_11 : decode cX9_count 11 = .ok (.iload_n 1, 1) := by decide +kernel
theorem dX9_count_12 : decode cX9_count 12 = .ok (.invokevirtual 74, 3) := by decide +kernel
theorem dX9_count_15 : decode cX9_count 15 = .ok (.ireturn, 1) := by decide +kernel
theorem dX9_count_16 : decode cX9_count 16 = .ok (.iload_n 1, 1) := by decide +kernel
theorem dX9_count_17 : decode cX9_count 17 = .ok (.tableswitch 141 4 11 #[47, 55, 79, 87, 95, 103, 125, 133], 47) := by decide +kernel
theorem dX9_count_64 : decode cX9_count 64 = .ok (.aload_n 0, 1) := by decide +kernel
theorem dX9_count_65 : decode cX9_count 65 = .ok (.getfield 12, 3) := by decide +kernel
theorem dX9_count_68 : decode cX9_count 68 = .ok (.getfield 166, 3) := by decide +kernel
theorem dX9_count_71 : decode cX9_count 71 = .ok (.ireturn, 1) := by decide +kernel
theorem dX9_count_72 : decode cX9_count 72 = .ok (.aload_n 0, 1) := by decide +kernel
theorem dX9_count_73 : decode cX9_count 73 = .ok (.getfield 12, 3) := by decide +kernel
theorem dX9_count_76 : decode cX9_count 76 = .ok (.invokevirtual 115, 3) := by decide +kernel
theorem dX9_count_79 : decode cX9_count 79 = .ok (.ifCond .eq 9, 3) := by decide +kernel
theorem dX9_count_82 : decode cX9_count 82 = .ok (.sipush (-1006), 3) := by decide +kernel
theorem dX9_count_85 : decode cX9_count 85 = .ok (.goto 10, 3) := by decide +kernel
theorem dX9_count_88 : decode cX9_count 88 = .ok (.aload_n 0, 1) := by decide +kernel
end
section
theorem dX9_count_89 : decode cX9_count 89 = .ok (.getfield 12, 3) := by decide +kernel
theorem dX9_count_92 : decode cX9_count 92 = .ok (.getfield 169, 3) := by decide +kernel
theorem dX9_count_95 : decode cX9_count 95 = .ok (.ireturn, 1) := by decide +kernel
theorem dX9_count_96 : decode cX9_count 96 = .ok (.aload_n 0, 1) := by decide +kernel
theorem dX9_count_97 : decode cX9_count 97 = .ok (.getfield 12, 3) := by decide +kernel
theorem dX9_count_100 : decode cX9_count 100 = .ok (.getfield 91, 3) := by decide +kernel
theorem dX9_count_103 : decode cX9_count 103 = .ok (.ireturn, 1) := by decide +kernel
theorem dX9_count_104 : decode cX9_count 104 = .ok (.aload_n 0, 1) := by decide +kernel
theorem dX9_count_105 : decode cX9_count 105 = .ok (.getfield 12, 3) := by decide +kernel
theorem dX9_count_108 : decode cX9_count 108 = .ok (.invokevirtual 172, 3) := by decide +kernel
theorem dX9_count_111 : decode cX9_count 111 = .ok (.ireturn, 1) := by decide +kernel
theorem dX9_count_112 : decode cX9_count 112 = .ok (.aload_n 0, 1) := by decide +kernel
theorem dX9_count_113 : decode cX9_count 113 = .ok (.getfield 12, 3) := by decide +kernel
theorem dX9_count_116 : decode cX9_count 116 = .ok (.getfield 175, 3) := by decide +kernel
theorem dX9_count_119 : decode cX9_count 119 = .ok (.ireturn, 1) := by decide +kernel
theorem dX9_count_120 : decode cX9_count 120 = .ok (.aload_n 0, 1) := by decide +kernel
theorem dX9_count_121 : decode cX9_count 121 = .ok (.getfield 12, 3) := by decide +kernel
theorem dX9_count_124 : decode cX9_count 124 = .ok (.getfield 95, 3) := by decide +kernel
theorem dX9_count_127 : decode cX9_count 127 = .ok (.getfield 160, 3) := by decide +kernel
theorem dX9_count_130 : decode cX9_count 130 = .ok (.aload_n 0, 1) := by decide +kernel
theorem dX9_count_131 : decode cX9_count 131 = .ok (.getfield 12, 3) := by decide +kernel
theorem dX9_count_134 : decode cX9_count 134 = .ok (.getfield 104, 3) := by decide +kernel
theorem dX9_count_137 : decode cX9_count 137 = .ok (.getfield 160, 3) := by decide +kernel
theorem dX9_count_140 : decode cX9_count 140 = .ok (.iadd, 1) := by decide +kernel
theorem dX9_count_141 : decode cX9_count 141 = .ok (.ireturn, 1) := by decide +kernel
theorem dX9_count_142 : decode cX9_count 142 = .ok (.aload_n 0, 1) := by decide +kernel
theorem dX9_count_143 : decode cX9_count 143 = .ok (.getfield 36, 3) := by decide +kernel
theorem dX9_count_146 : decode cX9_count 146 = .ok (.getfield 178, 3) := by decide +kernel
theorem dX9_count_149 : decode cX9_count 149 = .ok (.ireturn, 1) := by decide +kernel
theorem dX9_count_150 : decode cX9_count 150 = .ok (.aload_n 0, 1) := by decide +kernel
theorem dX9_count_151 : decode cX9_count 151 = .ok (.getfield 19, 3) := by decide +kernel
theorem dX9_count_154 : decode cX9_count 154 = .ok (.getfield 181, 3) := by decide +kernel
theorem dX9_count_157 : decode cX9_count 157 = .ok (.ireturn, 1) := by decide +kernel
theorem dX9_count_158 : decode cX9_count 158 = .ok (.sipush (-1002), 3) := by decide +kernel
theorem dX9_count_161 : decode cX9_count 161 = .ok (.ireturn, 1) := by decide +kernel
theorem dX9_forced_0 : decode cX9_forced 0 = .ok (.iload_n 1, 1) := by decide +kernel
theorem dX9_forced_1 : decode cX9_forced 1 = .ok (.invokestatic 141, 3) := by decide +kernel
theorem dX9_forced_4 : decode cX9_forced 4 = .ok (.ifCond .ne 7, 3) := by decide +kernel
theorem dX9_forced_7 : decode cX9_forced 7 = .ok (.sipush (-1001), 3) := by decide +kernel
theorem dX9_forced_10 : decode cX9_forced 10 = .ok (.ireturn, 1) := by decide +kernel
theorem dX9_forced_11 : decode cX9_forced 11 = .ok (.iload_n 2, 1) := by decide +kernel
theorem dX9_forced_12 : decode cX9_forced 12 = .ok (.iconst 0, 1) := by decide +kernel
theorem dX9_forced_13 : decode cX9_forced 13 = .ok (.bipush 8, 2) := by decide +kernel
theorem dX9_forced_15 : decode cX9_forced 15 = .ok (.invokestatic 87, 3) := by decide +kernel
theorem dX9_forced_18 : decode cX9_forced 18 = .ok (.ifCond .ne 7, 3) := by decide +kernel
theorem dX9_forced_21 : decode cX9_forced 21 = .ok (.sipush (-1002), 3) := by decide +kernel
theorem dX9_forced_24 : decode cX9_forced 24 = .ok (.ireturn, 1) := by decide +kernel
theorem dX9_forced_25 : decode cX9_forced 25 = .ok (.aload_n 0, 1) := by decide +kernel
theorem dX9_forced_26 : decode cX9_forced 26 = .ok (.iload_n 1, 1) := by decide +kernel
theorem dX9_forced_27 : decode cX9_forced 27 = .ok (.aload_n 0, 1) := by decide +kernel
theorem dX9_forced_28 : decode cX9_forced 28 = .ok (.getfield 12, 3) := by decide +kernel
theorem dX9_forced_31 : decode cX9_forced 31 = .ok (.iload_n 1, 1) := by decide +kernel
theorem dX9_forced_32 : decode cX9_forced 32 = .ok (.invokevirtual 151, 3) := by decide +kernel
theorem dX9_forced_35 : decode cX9_forced 35 = .ok (.invokevirtual 163, 3) := by decide +kernel
theorem dX9_forced_38 : decode cX9_forced 38 = .ok (.iload_n 2, 1) := by decide +kernel
theorem dX9_forced_39 : decode cX9_forced 39 = .ok (.if_icmp .gt 7, 3) := by decide +kernel
theorem dX9_forced_42 : decode cX9_forced 42 = .ok (.iconst 1, 1) := by decide +kernel
theorem dX9_forced_43 : decode cX9_forced 43 = .ok (.goto 4, 3) := by decide +kernel
theorem dX9_forced_46 : decode cX9_forced 46 = .ok (.iconst 0, 1) := by decide +kernel
theorem dX9_forced_47 : decode cX9_forced 47 = .ok (.ireturn, 1) := by decide +kernel
theorem dX9_ahead_0 : decode cX9_ahead 0 = .ok (.iload_n 1, 1) := by decide +kernel
theorem dX9_ahead_1 : decode cX9_ahead 1 = .ok (.invokestatic 141, 3) := by decide +kernel
theorem dX9_ahead_4 : decode cX9_ahead 4 = .ok (.ifCond .ne 7, 3) := by decide +kernel
theorem dX9_ahead_7 : decode cX9_ahead 7 = .ok (.sipush (-1001), 3) := by decide +kernel
theorem dX9_ahead_10 : decode cX9_ahead 10 = .ok (.ireturn, 1) := by decide +kernel
theorem dX9_ahead_11 : decode cX9_ahead 11 = .ok (.iload_n 2, 1) := by decide +kernel
theorem dX9_ahead_12 : decode cX9_ahead 12 = .ok (.iconst 0, 1) := by decide +kernel
theorem dX9_ahead_13 : decode cX9_ahead 13 = .ok (.iconst 3, 1) := by decide +kernel
theorem dX9_ahead_14 : decode cX9_ahead 14 = .ok (.invokestatic 87, 3) := by decide +kernel
theorem dX9_ahead_17 : decode cX9_ahead 17 = .ok (.ifCond .ne 7, 3) := by decide +kernel
theorem dX9_ahead_20 : decode cX9_ahead 20 = .ok (.sipush (-1002), 3) := by decide +kernel
theorem dX9_ahead_23 : decode cX9_ahead 23 = .ok (.ireturn, 1) := by decide +kernel
theorem dX9_ahead_24 : decode cX9_ahead 24 = .ok (.aload_n 0, 1) := by decide +kernel
theorem dX9_ahead_25 : decode cX9_ahead 25 = .ok (.getfield 59, 3) := by decide +kernel
theorem dX9_ahead_28 : decode cX9_ahead 28 = .ok (.iload_n 1, 1) := by decide +kernel
theorem dX9_ahead_29 : decode cX9_ahead 29 = .ok (.iload_n 2, 1) := by decide +kernel
theorem dX9_ahead_30 : decode cX9_ahead 30 = .ok (.invokevirtual 184, 3) := by decide +kernel
theorem dX9_ahead_33 : decode cX9_ahead 33 = .ok (.ifCond .eq 7, 3) := by decide +kernel
theorem dX9_ahead_36 : decode cX9_ahead 36 = .ok (.iconst 1, 1) := by decide +kernel
theorem dX9_ahead_37 : decode cX9_ahead 37 = .ok (.goto 4, 3) := by decide +kernel
theorem dX9_ahead_40 : decode cX9_ahead 40 = .ok (.iconst 0, 1) := by decide +kernel
theorem dX9_ahead_41 : decode cX9_ahead 41 = .ok (.ireturn, 1) := by decide +kernel
theorem dX9_bestBid_0 : decode cX9_bestBid 0 = .ok (.aload_n 0, 1) := by decide +kernel
theorem dX9_bestBid_1 : decode cX9_bestBid 1 = .ok (.getfield 12, 3) := by decide +kernel
theorem dX9_bestBid_4 : decode cX9_bestBid 4 = .ok (.invokevirtual 115, 3) := by decide +kernel
theorem dX9_bestBid_7 : decode cX9_bestBid 7 = .ok (.ifCond .eq 7, 3) := by decide +kernel
theorem dX9_bestBid_10 : decode cX9_bestBid 10 = .ok (.sipush (-1005), 3) := by decide +kernel
theorem dX9_bestBid_13 : decode cX9_bestBid 13 = .ok (.ireturn, 1) := by decide +kernel
theorem dX9_bestBid_14 : decode cX9_bestBid 14 = .ok (.aload_n 0, 1) := by decide +kernel
theorem dX9_bestBid_15 : decode cX9_bestBid 15 = .ok (.getfield 52, 3) := by decide +kernel
theorem dX9_bestBid_18 : decode cX9_bestBid 18 = .ok (.aload_n 0, 1) := by decide +kernel
theorem dX9_bestBid_19 : decode cX9_bestBid 19 = .ok (.invokevirtual 119, 3) := by decide +kernel
theorem dX9_bestBid_22 : decode cX9_bestBid 22 = .ok (.invokevirtual 123, 3) := by decide +kernel
theorem dX9_bestBid_25 : decode cX9_bestBid 25 = .ok (.ireturn, 1) := by decide +kernel
theorem dX9_bestAnswer_0 : decode cX9_bestAnswer 0 = .ok (.iload_n 1, 1) := by decide +kernel
theorem dX9_bestAnswer_1 : decode cX9_bestAnswer 1 = .ok (.iconst 0, 1) := by decide +kernel
theorem dX9_bestAnswer_2 : decode cX9_bestAnswer 2 = .ok (.bipush 14, 2) := by decide +kernel
theorem dX9_bestAnswer_4 : decode cX9_bestAnswer 4 = .ok (.invokestatic 87, 3) := by decide +kernel
theorem dX9_bestAnswer_7 : decode cX9_bestAnswer 7 = .ok (.ifCond .ne 7, 3) := by decide +kernel
theorem dX9_bestAnswer_10 : decode cX9_bestAnswer 10 = .ok (.sipush (-1002), 3) := by decide +kernel
theorem dX9_bestAnswer_13 : decode cX9_bestAnswer 13 = .ok (.ireturn, 1) := by decide +kernel
theorem dX9_bestAnswer_14 : decode cX9_bestAnswer 14 = .ok (.aload_n 0, 1) := by decide +kernel
theorem dX9_bestAnswer_15 : decode cX9_bestAnswer 15 = .ok (.getfield 12, 3) := by decide +kernel
theorem dX9_bestAnswer_18 : decode cX9_bestAnswer 18 = .ok (.iload_n 1, 1) := by decide +kernel
theorem dX9_bestAnswer_19 : decode cX9_bestAnswer 19 = .ok (.iconst 0, 1) := by decide +kernel
theorem dX9_bestAnswer_20 : decode cX9_bestAnswer 20 = .ok (.invokevirtual 107, 3) := by decide +kernel
theorem dX9_bestAnswer_23 : decode cX9_bestAnswer 23 = .ok (.ifCond .ne 7, 3) := by decide +kernel
theorem dX9_bestAnswer_26 : decode cX9_bestAnswer 26 = .ok (.sipush (-1005), 3) := by decide +kernel
theorem dX9_bestAnswer_29 : decode cX9_bestAnswer 29 = .ok (.ireturn, 1) := by decide +kernel
theorem dX9_bestAnswer_30 : decode cX9_bestAnswer 30 = .ok (.aload_n 0, 1) := by decide +kernel
theorem dX9_bestAnswer_31 : decode cX9_bestAnswer 31 = .ok (.getfield 52, 3) := by decide +kernel
theorem dX9_bestAnswer_34 : decode cX9_bestAnswer 34 = .ok (.aload_n 0, 1) := by decide +kernel
theorem dX9_bestAnswer_35 : decode cX9_bestAnswer 35 = .ok (.invokevirtual 119, 3) := by decide +kernel
theorem dX9_bestAnswer_38 : decode cX9_bestAnswer 38 = .ok (.iload_n 1, 1) := by decide +kernel
theorem dX9_bestAnswer_39 : decode cX9_bestAnswer 39 = .ok (.invokevirtual 127, 3) := by decide +kernel
theorem dX9_bestAnswer_42 : decode cX9_bestAnswer 42 = .ok (.ireturn, 1) := by decide +kernel
theorem dX9_keeps_0 : decode cX9_keeps 0 = .ok (.aload_n 0, 1) := by decide +kernel
theorem dX9_keeps_1 : decode cX9_keeps 1 = .ok (.getfield 12, 3) := by decide +kernel
theorem dX9_keeps_4 : decode cX9_keeps 4 = .ok (.invokevirtual 115, 3) := by decide +kernel
theorem dX9_keeps_7 : decode cX9_keeps 7 = .ok (.ifCond .eq 7, 3) := by decide +kernel
theorem dX9_keeps_10 : decode cX9_keeps 10 = .ok (.sipush (-1005), 3) := by decide +kernel
theorem dX9_keeps_13 : decode cX9_keeps 13 = .ok (.ireturn, 1) := by decide +kernel
theorem dX9_keeps_14 : decode cX9_keeps 14 = .ok (.aload_n 0, 1) := by decide +kernel
theorem dX9_keeps_15 : decode cX9_keeps 15 = .ok (.getfield 52, 3) := by decide +kernel
theorem dX9_keeps_18 : decode cX9_keeps 18 = .ok (.aload_n 0, 1) := by decide +kernel
theorem dX9_keeps_19 : decode cX9_keeps 19 = .ok (.invokevirtual 119, 3) := by decide +kernel
theorem dX9_keeps_22 : decode cX9_keeps 22 = .ok (.invokevirtual 187, 3) := by decide +kernel
theorem dX9_keeps_25 : decode cX9_keeps 25 = .ok (.ireturn, 1) := by decide +kernel
theorem dX9_leastHours_0 : decode cX9_leastHours 0 = .ok (.iload_n 1, 1) := by decide +kernel
theorem dX9_leastHours_1 : decode cX9_leastHours 1 = .ok (.invokestatic 141, 3) := by decide +kernel
theorem dX9_leastHours_4 : decode cX9_leastHours 4 = .ok (.ifCond .ne 7, 3) := by decide +kernel
theorem dX9_leastHours_7 : decode cX9_leastHours 7 = .ok (.sipush (-1001), 3) := by decide +kernel
theorem dX9_leastHours_10 : decode cX9_leastHours 10 = .ok (.ireturn, 1) := by decide +kernel
theorem dX9_leastHours_11 : decode cX9_leastHours 11 = .ok (.aload_n 0, 1) := by decide +kernel
theorem dX9_leastHours_12 : decode cX9_leastHours 12 = .ok (.getfield 12, 3) := by decide +kernel
theorem dX9_leastHours_15 : decode cX9_leastHours 15 = .ok (.invokevirtual 115, 3) := by decide +kernel
theorem dX9_leastHours_18 : decode cX9_leastHours 18 = .ok (.ifCond .eq 7, 3) := by decide +kernel
theorem dX9_leastHours_21 : decode cX9_leastHours 21 = .ok (.sipush (-1005), 3) := by decide +kernel
theorem dX9_leastHours_24 : decode cX9_leastHours 24 = .ok (.ireturn, 1) := by decide +kernel
theorem dX9_leastHours_25 : decode cX9_leastHours 25 = .ok (.iconst 0, 1) := by decide +kernel
theorem dX9_leastHours_26 : decode cX9_leastHours 26 = .ok (.istore_n 2, 1) := by decide +kernel
theorem dX9_leastHours_27 : decode cX9_leastHours 27 = .ok (.iload_n 2, 1) := by decide +kernel
theorem dX9_leastHours_28 : decode cX9_leastHours 28 = .ok (.bipush 6, 2) := by decide +kernel
theorem dX9_leastHours_30 : decode cX9_leastHours 30 = .ok (.if_icmp .gt 30, 3) := by decide +kernel
theorem dX9_leastHours_33 : decode cX9_leastHours 33 = .ok (.aload_n 0, 1) := by decide +kernel
theorem dX9_leastHours_34 : decode cX9_leastHours 34 = .ok (.iload_n 1, 1) := by decide +kernel
theorem dX9_leastHours_35 : decode cX9_leastHours 35 = .ok (.iload_n 2, 1) := by decide +kernel
theorem dX9_leastHours_36 : decode cX9_leastHours 36 = .ok (.aload_n 0, 1) := by decide +kernel
theorem dX9_leastHours_37 : decode cX9_leastHours 37 = .ok (.getfield 12, 3) := by decide +kernel
theorem dX9_leastHours_40 : decode cX9_leastHours 40 = .ok (.getfield 190, 3) := by decide +kernel
theorem dX9_leastHours_43 : decode cX9_leastHours 43 = .ok (.iadd, 1) := by decide +kernel
theorem dX9_leastHours_44 : decode cX9_leastHours 44 = .ok (.invokevirtual 163, 3) := by decide +kernel
theorem dX9_leastHours_47 : decode cX9_leastHours 47 = .ok (.bipush 9, 2) := by decide +kernel
theorem dX9_leastHours_49 : decode cX9_leastHours 49 = .ok (.if_icmp .ge 5, 3) := by decide +kernel
theorem dX9_leastHours_52 : decode cX9_leastHours 52 = .ok (.iload_n 2, 1) := by decide +kernel
theorem dX9_leastHours_53 : decode cX9_leastHours 53 = .ok (.ireturn, 1) := by decide +kernel
theorem dX9_leastHours_54 : decode cX9_leastHours 54 = .ok (.iinc 2 1, 3) := by decide +kernel
theorem dX9_leastHours_57 : decode cX9_leastHours 57 = .ok (.goto (-30), 3) := by decide +kernel
theorem dX9_leastHours_60 : decode cX9_leastHours 60 = .ok (.sipush (-1006), 3) := by decide +kernel
theorem dX9_leastHours_63 : decode cX9_leastHours 63 = .ok (.ireturn, 1) := by decide +kernel
theorem dX9_put_0 : decode cX9_put 0 = .ok (.lload_n 1, 1) := by decide +kernel
theorem dX9_put_1 : decode cX9_put 1 = .ok (.invokestatic 193, 3) := by decide +kernel
theorem dX9_put_4 : decode cX9_put 4 = .ok (.istore_n 3, 1) := by decide +kernel
theorem dX9_put_5 : decode cX9_put 5 = .ok (.iload_n 3, 1) := by decide +kernel
theorem dX9_put_6 : decode cX9_put 6 = .ok (.ifCond .ne 7, 3) := by decide +kernel
theorem dX9_put_9 : decode cX9_put 9 = .ok (.sipush (-1002), 3) := by decide +kernel
theorem dX9_put_12 : decode cX9_put 12 = .ok (.ireturn, 1) := by decide +kernel
theorem dX9_put_13 : decode cX9_put 13 = .ok (.aload_n 0, 1) := by decide +kernel
theorem dX9_put_14 : decode cX9_put 14 = .ok (.getfield 36, 3) := by decide +kernel
theorem dX9_put_17 : decode cX9_put 17 = .ok (.getfield 178, 3) := by decide +kernel
theorem dX9_put_20 : decode cX9_put 20 = .ok (.iload_n 3, 1) := by decide +kernel
theorem dX9_put_21 : decode cX9_put 21 = .ok (.iadd, 1) := by decide +kernel
theorem dX9_put_22 : decode cX9_put 22 = .ok (.bipush 60, 2) := by decide +kernel
theorem dX9_put_24 : decode cX9_put 24 = .ok (.if_icmp .le 7, 3) := by decide +kernel
theorem dX9_put_27 : decode cX9_put 27 = .ok (.sipush (-1004), 3) := by decide +kernel
theorem dX9_put_30 : decode cX9_put 30 = .ok (.ireturn, 1) := by decide +kernel
theorem dX9_put_31 : decode cX9_put 31 = .ok (.aload_n 0, 1) := by decide +kernel
theorem dX9_put_32 : decode cX9_put 32 = .ok (.getfield 36, 3) := by decide +kernel
theorem dX9_put_35 : decode cX9_put 35 = .ok (.lload_n 1, 1) := by decide +kernel
theorem dX9_put_36 : decode cX9_put 36 = .ok (.iload_n 3, 1) := by decide +kernel
theorem dX9_put_37 : decode cX9_put 37 = .ok (.invokevirtual 197, 3) := by decide +kernel
theorem dX9_put_40 : decode cX9_put 40 = .ok (.aload_n 0, 1) := by decide +kernel
theorem dX9_put_41 : decode cX9_put 41 = .ok (.getfield 36, 3) := by decide +kernel
theorem dX9_put_44 : decode cX9_put 44 = .ok (.getfield 178, 3) := by decide +kernel
theorem dX9_put_47 : decode cX9_put 47 = .ok (.ireturn, 1) := by decide +kernel
theorem dX9_wipe_0 : decode cX9_wipe 0 = .ok (.aload_n 0, 1) := by decide +kernel
theorem dX9_wipe_1 : decode cX9_wipe 1 = .ok (.getfield 36, 3) := by decide +kernel
theorem dX9_wipe_4 : decode cX9_wipe 4 = .ok (.getfield 178, 3) := by decide +kernel
theorem dX9_wipe_7 : decode cX9_wipe 7 = .ok (.istore_n 1, 1) := by decide +kernel
theorem dX9_wipe_8 : decode cX9_wipe 8 = .ok (.aload_n 0, 1) := by decide +kernel
theorem dX9_wipe_9 : decode cX9_wipe 9 = .ok (.getfield 36, 3) := by decide +kernel
theorem dX9_wipe_12 : decode cX9_wipe 12 = .ok (.invokevirtual 138, 3) := by decide +kernel
theorem dX9_wipe_15 : decode cX9_wipe 15 = .ok (.iload_n 1, 1) := by decide +kernel
theorem dX9_wipe_16 : decode cX9_wipe 16 = .ok (.ireturn, 1) := by decide +kernel
theorem dX9_fault_0 : decode cX9_fault 0 = .ok (.aload_n 0, 1) := by decide +kernel
theorem dX9_fault_1 : decode cX9_fault 1 = .ok (.getfield 36, 3) := by decide +kernel
theorem dX9_fault_4 : decode cX9_fault 4 = .ok (.invokevirtual 131, 3) := by decide +kernel
theorem dX9_fault_7 : decode cX9_fault 7 = .ok (.ireturn, 1) := by decide +kernel
theorem dX9_undo_0 : decode cX9_undo 0 = .ok (.aload_n 0, 1) := by decide +kernel
theorem dX9_undo_1 : decode cX9_undo 1 = .ok (.getfield 19, 3) := by decide +kernel
theorem dX9_undo_4 : decode cX9_undo 4 = .ok (.getfield 181, 3) := by decide +kernel
theorem dX9_undo_7 : decode cX9_undo 7 = .ok (.ifCond .ne 7, 3) := by decide +kernel
theorem dX9_undo_10 : decode cX9_undo 10 = .ok (.sipush (-1005), 3) := by decide +kernel
theorem dX9_undo_13 : decode cX9_undo 13 = .ok (.ireturn, 1) := by decide +kernel
theorem dX9_undo_14 : decode cX9_undo 14 = .ok (.aload_n 0, 1) := by decide +kernel
theorem dX9_undo_15 : decode cX9_undo 15 = .ok (.getfield 19, 3) := by decide +kernel
theorem dX9_undo_18 : decode cX9_undo 18 = .ok (.aload_n 0, 1) := by decide +kernel
theorem dX9_undo_19 : decode cX9_undo 19 = .ok (.getfield 12, 3) := by decide +kernel
theorem dX9_undo_22 : decode cX9_undo 22 = .ok (.invokevirtual 201, 3) := by decide +kernel
theorem dX9_undo_25 : decode cX9_undo 25 = .ok (.aload_n 0, 1) := by decide +kernel
theorem dX9_undo_26 : decode cX9_undo 26 = .ok (.getfield 19, 3) := by decide +kernel
theorem dX9_undo_29 : decode cX9_undo 29 = .ok (.getfield 181, 3) := by decide +kernel
theorem dX9_undo_32 : decode cX9_undo 32 = .ok (.ireturn, 1) := by decide +kernel
theorem dX9_save_0 : decode cX9_save 0 = .ok (.iload_n 1, 1) := by decide +kernel
theorem dX9_save_1 : decode cX9_save 1 = .ok (.invokestatic 204, 3) := by decide +kernel
theorem dX9_save_4 : decode cX9_save 4 = .ok (.ifCond .ne 7, 3) := by decide +kernel
theorem dX9_save_7 : decode cX9_save 7 = .ok (.sipush (-1002), 3) := by decide +kernel
theorem dX9_save_10 : decode cX9_save 10 = .ok (.ireturn, 1) := by decide +kernel
theorem dX9_save_11 : decode cX9_save 11 = .ok (.aload_n 0, 1) := by decide +kernel
theorem dX9_save_12 : decode cX9_save 12 = .ok (.iload_n 1, 1) := by decide +kernel
theorem dX9_save_13 : decode cX9_save 13 = .ok (.invokevirtual 207, 3) := by decide +kernel
theorem dX9_save_16 : decode cX9_save 16 = .ok (.astore_n 2, 1) := by decide +kernel
theorem dX9_save_17 : decode cX9_save 17 = .ok (.aload_n 2, 1) := by decide +kernel
theorem dX9_save_18 : decode cX9_save 18 = .ok (.getfield 211, 3) := by decide +kernel
theorem dX9_save_21 : decode cX9_save 21 = .ok (.aload_n 0, 1) := by decide +kernel
theorem dX9_save_22 : decode cX9_save 22 = .ok (.getfield 12, 3) := by decide +kernel
theorem dX9_save_25 : decode cX9_save 25 = .ok (.invokevirtual 214, 3) := by decide +kernel
theorem dX9_save_28 : decode cX9_save 28 = .ok (.aload_n 2, 1) := by decide +kernel
theorem dX9_save_29 : decode cX9_save 29 = .ok (.iconst 1, 1) := by decide +kernel
theorem dX9_save_30 : decode cX9_save 30 = .ok (.putfield 217, 3) := by decide +kernel
theorem dX9_save_33 : decode cX9_save 33 = .ok (.aload_n 0, 1) := by decide +kernel
theorem dX9_save_34 : decode cX9_save 34 = .ok (.getfield 12, 3) := by decide +kernel
theorem dX9_save_37 : decode cX9_save 37 = .ok (.getfield 91, 3) := by decide +kernel
theorem dX9_save_40 : decode cX9_save 40 = .ok (.ireturn, 1) := by decide +kernel
theorem dX9_restore_0 : decode cX9_restore 0 = .ok (.iload_n 1, 1) := by decide +kernel
theorem dX9_restore_1 : decode cX9_restore 1 = .ok (.invokestatic 204, 3) := by decide +kernel
theorem dX9_restore_4 : decode cX9_restore 4 = .ok (.ifCond .ne 7, 3) := by decide +kernel
theorem dX9_restore_7 : decode cX9_restore 7 = .ok (.sipush (-1002), 3) := by decide +kernel
theorem dX9_restore_10 : decode cX9_restore 10 = .ok (.ireturn, 1) := by decide +kernel
theorem dX9_restore_11 : decode cX9_restore 11 = .ok (.aload_n 0, 1) := by decide +kernel
theorem dX9_restore_12 : decode cX9_restore 12 = .ok (.iload_n 1, 1) := by decide +kernel
theorem dX9_restore_13 : decode cX9_restore 13 = .ok (.invokevirtual 207, 3) := by decide +kernel
theorem dX9_restore_16 : decode cX9_restore 16 = .ok (.astore_n 2, 1) := by decide +kernel
theorem dX9_restore_17 : decode cX9_restore 17 = .ok (.aload_n 2, 1) := by decide +kernel
theorem dX9_restore_18 : decode cX9_restore 18 = .ok (.getfield 217, 3) := by decide +kernel
theorem dX9_restore_21 : decode cX9_restore 21 = .ok (.ifCond .ne 7, 3) := by decide +kernel
theorem dX9_restore_24 : decode cX9_restore 24 = .ok (.sipush (-1005), 3) := by decide +kernel
theorem dX9_restore_27 : decode cX9_restore 27 = .ok (.ireturn, 1) := by decide +kernel
theorem dX9_restore_28 : decode cX9_restore 28 = .ok (.aload_n 0, 1) := by decide +kernel
theorem dX9_restore_29 : decode cX9_restore 29 = .ok (.getfield 19, 3) := by decide +kernel
theorem dX9_restore_32 : decode cX9_restore 32 = .ok (.aload_n 0, 1) := by decide +kernel
theorem dX9_restore_33 : decode cX9_restore 33 = .ok (.getfield 12, 3) := by decide +kernel
theorem dX9_restore_36 : decode cX9_restore 36 = .ok (.invokevirtual 77, 3) := by decide +kernel
theorem dX9_restore_39 : decode cX9_restore 39 = .ok (.aload_n 0, 1) := by decide +kernel
theorem dX9_restore_40 : decode cX9_restore 40 = .ok (.getfield 12, 3) := by decide +kernel
theorem dX9_restore_43 : decode cX9_restore 43 = .ok (.aload_n 2, 1) := by decide +kernel
theorem dX9_restore_44 : decode cX9_restore 44 = .ok (.getfield 211, 3) := by decide +kernel
theorem dX9_restore_47 : decode cX9_restore 47 = .ok (.invokevirtual 214, 3) := by decide +kernel
theorem dX9_restore_50 : decode cX9_restore 50 = .ok (.aload_n 0, 1) := by decide +kernel
theorem dX9_restore_51 : decode cX9_restore 51 = .ok (.getfield 12, 3) := by decide +kernel
theorem dX9_restore_54 : decode cX9_restore 54 = .ok (.getfield 91, 3) := by decide +kernel
theorem dX9_restore_57 : decode cX9_restore 57 = .ok (.ireturn, 1) := by decide +kernel
theorem dX9_isBetween_0 : decode cX9_isBetween 0 = .ok (.iload_n 0, 1) := by decide +kernel
theorem dX9_isBetween_1 : decode cX9_isBetween 1 = .ok (.iload_n 1, 1) := by decide +kernel
theorem dX9_isBetween_2 : decode cX9_isBetween 2 = .ok (.if_icmp .lt 12, 3) := by decide +kernel
theorem dX9_isBetween_5 : decode cX9_isBetween 5 = .ok (.iload_n 0, 1) := by decide +kernel
theorem dX9_isBetween_6 : decode cX9_isBetween 6 = .ok (.iload_n 2, 1) := by decide +kernel
theorem dX9_isBetween_7 : decode cX9_isBetween 7 = .ok (.if_icmp .gt 7, 3) := by decide +kernel
theorem dX9_isBetween_10 : decode cX9_isBetween 10 = .ok (.iconst 1, 1) := by decide +kernel
theorem dX9_isBetween_11 : decode cX9_isBetween 11 = .ok (.goto 4, 3) := by decide +kernel
theorem dX9_isBetween_14 : decode cX9_isBetween 14 = .ok (.iconst 0, 1) := by decide +kernel
theorem dX9_isBetween_15 : decode cX9_isBetween 15 = .ok (.ireturn, 1) := by decide +kernel
theorem dX9_isPlayer_0 : decode cX9_isPlayer 0 = .ok (.iload_n 0, 1) := by decide +kernel
theorem dX9_isPlayer_1 : decode cX9_isPlayer 1 = .ok (.ifCond .eq 8, 3) := by decide +kernel
theorem dX9_isPlayer_4 : decode cX9_isPlayer 4 = .ok (.iload_n 0, 1) := by decide +kernel
theorem dX9_isPlayer_5 : decode cX9_isPlayer 5 = .ok (.iconst 1, 1) := by decide +kernel
theorem dX9_isPlayer_6 : decode cX9_isPlayer 6 = .ok (.if_icmp .ne 7, 3) := by decide +kernel
theorem dX9_isPlayer_9 : decode cX9_isPlayer 9 = .ok (.iconst 1, 1) := by decide +kernel
theorem dX9_isPlayer_10 : decode cX9_isPlayer 10 = .ok (.goto 4, 3) := by decide +kernel
theorem dX9_isPlayer_13 : decode cX9_isPlayer 13 = .ok (.iconst 0, 1) := by decide +kernel
theorem dX9_isPlayer_14 : decode cX9_isPlayer 14 = .ok (.ireturn, 1) := by decide +kernel
theorem dX9_isSlot_0 : decode cX9_isSlot 0 = .ok (.iload_n 0, 1) := by decide +kernel
theorem dX9_isSlot_1 : decode cX9_isSlot 1 = .ok (.ifCond .eq 8, 3) := by decide +kernel
theorem dX9_isSlot_4 : decode cX9_isSlot 4 = .ok (.iload_n 0, 1) := by decide +kernel
theorem dX9_isSlot_5 : decode cX9_isSlot 5 = .ok (.iconst 1, 1) := by decide +kernel
theorem dX9_isSlot_6 : decode cX9_isSlot 6 = .ok (.if_icmp .ne 7, 3) := by decide +kernel
theorem dX9_isSlot_9 : decode cX9_isSlot 9 = .ok (.iconst 1, 1) := by decide +kernel
theorem dX9_isSlot_10 : decode cX9_isSlot 10 = .ok (.goto 4, 3) := by decide +kernel
theorem dX9_isSlot_13 : decode cX9_isSlot 13 = .ok (.iconst 0, 1) := by decide +kernel
theorem dX9_isSlot_14 : decode cX9_isSlot 14 = .ok (.ireturn, 1) := by decide +kernel
theorem dX9_isSetting_0 : decode cX9_isSetting 0 = .ok (.iload_n 0, 1) := by decide +kernel
theorem dX9_isSetting_1 : decode cX9_isSetting 1 = .ok (.iconst 0, 1) := by decide +kernel
theorem dX9_isSetting_2 : decode cX9_isSetting 2 = .ok (.iconst 3, 1) := by decide +kernel
theorem dX9_isSetting_3 : decode cX9_isSetting 3 = .ok (.invokestatic 87, 3) := by decide +kernel
theorem dX9_isSetting_6 : decode cX9_isSetting 6 = .ok (.ireturn, 1) := by decide +kernel
theorem dX9_leastSetting_0 : decode cX9_leastSetting 0 = .ok (.iload_n 0, 1) := by decide +kernel
theorem dX9_leastSetting_1 : decode cX9_leastSetting 1 = .ok (.ifCond .ne 7, 3) := by decide +kernel
theorem dX9_leastSetting_4 : decode cX9_leastSetting 4 = .ok (.iconst 1, 1) := by decide +kernel
theorem dX9_leastSetting_5 : decode cX9_leastSetting 5 = .ok (.goto 4, 3) := by decide +kernel
theorem dX9_leastSetting_8 : decode cX9_leastSetting 8 = .ok (.iconst 0, 1) := by decide +kernel
theorem dX9_leastSetting_9 : decode cX9_leastSetting 9 = .ok (.ireturn, 1) := by decide +kernel
theorem dX9_mostSetting_0 : decode cX9_mostSetting 0 = .ok (.iload_n 0, 1) := by decide +kernel
theorem dX9_mostSetting_1 : decode cX9_mostSetting 1 = .ok (.lookupswitch 31 #[(0, 27), (1, 29)], 27) := by decide +kernel
theorem dX9_mostSetting_28 : decode cX9_mostSetting 28 = .ok (.iconst 3, 1) := by decide +kernel
theorem dX9_mostSetting_29 : decode cX9_mostSetting 29 = .ok (.ireturn, 1) := by decide +kernel
theorem dX9_mostSetting_30 : decode cX9_mostSetting 30 = .ok (.iconst 2, 1) := by decide +kernel
theorem dX9_mostSetting_31 : decode cX9_mostSetting 31 = .ok (.ireturn, 1) := by decide +kernel
theorem dX9_mostSetting_32 : decode cX9_mostSetting 32 = .ok (.iconst 1, 1) := by decide +kernel
theorem dX9_mostSetting_33 : decode cX9_mostSetting 33 = .ok (.ireturn, 1) := by decide +kernel
theorem dX9_slotOf_0 : decode cX9_slotOf 0 = .ok (.iload_n 1, 1) := by decide +kernel
theorem dX9_slotOf_1 : decode cX9_slotOf 1 = .ok (.ifCond .ne 10, 3) := by decide +kernel
theorem dX9_slotOf_4 : decode cX9_slotOf 4 = .ok (.aload_n 0, 1) := by decide +kernel
theorem dX9_slotOf_5 : decode cX9_slotOf 5 = .ok (.getfield 26, 3) := by decide +kernel
theorem dX9_slotOf_8 : decode cX9_slotOf 8 = .ok (.goto 7, 3) := by decide +kernel
theorem dX9_slotOf_11 : decode cX9_slotOf 11 = .ok (.aload_n 0, 1) := by decide +kernel
theorem dX9_slotOf_12 : decode cX9_slotOf 12 = .ok (.getfield 30, 3) := by decide +kernel
theorem dX9_slotOf_15 : decode cX9_slotOf 15 = .ok (.areturn, 1) := by decide +kernel
theorem dX9_timeWith_0 : decode cX9_timeWith 0 = .ok (.aload_n 0, 1) := by decide +kernel
theorem dX9_timeWith_1 : decode cX9_timeWith 1 = .ok (.getfield 12, 3) := by decide +kernel
theorem dX9_timeWith_4 : decode cX9_timeWith 4 = .ok (.iconst 1, 1) := by decide +kernel
theorem dX9_timeWith_5 : decode cX9_timeWith 5 = .ok (.iload_n 1, 1) := by decide +kernel
theorem dX9_timeWith_6 : decode cX9_timeWith 6 = .ok (.isub, 1) := by decide +kernel
theorem dX9_timeWith_7 : decode cX9_timeWith 7 = .ok (.invokevirtual 151, 3) := by decide +kernel
theorem dX9_timeWith_10 : decode cX9_timeWith 10 = .ok (.istore_n 3, 1) := by decide +kernel
theorem dX9_timeWith_11 : decode cX9_timeWith 11 = .ok (.aload_n 0, 1) := by decide +kernel
theorem dX9_timeWith_12 : decode cX9_timeWith 12 = .ok (.getfield 43, 3) := by decide +kernel
theorem dX9_timeWith_15 : decode cX9_timeWith 15 = .ok (.aload_n 0, 1) := by decide +kernel
theorem dX9_timeWith_16 : decode cX9_timeWith 16 = .ok (.getfield 12, 3) := by decide +kernel
theorem dX9_timeWith_19 : decode cX9_timeWith 19 = .ok (.iload_n 2, 1) := by decide +kernel
theorem dX9_timeWith_20 : decode cX9_timeWith 20 = .ok (.iload_n 3, 1) := by decide +kernel
theorem dX9_timeWith_21 : decode cX9_timeWith 21 = .ok (.iadd, 1) := by decide +kernel
theorem dX9_timeWith_22 : decode cX9_timeWith 22 = .ok (.invokevirtual 221, 3) := by decide +kernel
theorem dX9_timeWith_25 : decode cX9_timeWith 25 = .ok (.astore 4, 2) := by decide +kernel
theorem dX9_timeWith_27 : decode cX9_timeWith 27 = .ok (.aload 4, 2) := by decide +kernel
theorem dX9_timeWith_29 : decode cX9_timeWith 29 = .ok (.aload_n 0, 1) := by decide +kernel
theorem dX9_timeWith_30 : decode cX9_timeWith 30 = .ok (.getfield 12, 3) := by decide +kernel
theorem dX9_timeWith_33 : decode cX9_timeWith 33 = .ok (.iload_n 1, 1) := by decide +kernel
theorem dX9_timeWith_34 : decode cX9_timeWith 34 = .ok (.invokevirtual 225, 3) := by decide +kernel
theorem dX9_timeWith_37 : decode cX9_timeWith 37 = .ok (.iload_n 2, 1) := by decide +kernel
theorem dX9_timeWith_38 : decode cX9_timeWith 38 = .ok (.iload_n 3, 1) := by decide +kernel
theorem dX9_timeWith_39 : decode cX9_timeWith 39 = .ok (.iload_n 1, 1) := by decide +kernel
theorem dX9_timeWith_40 : decode cX9_timeWith 40 = .ok (.aload_n 0, 1) := by decide +kernel
theorem dX9_timeWith_41 : decode cX9_timeWith 41 = .ok (.getfield 12, 3) := by decide +kernel
theorem dX9_timeWith_44 : decode cX9_timeWith 44 = .ok (.getfield 169, 3) := by decide +kernel
theorem dX9_timeWith_47 : decode cX9_timeWith 47 = .ok (.if_icmp .ne 7, 3) := by decide +kernel
theorem dX9_timeWith_50 : decode cX9_timeWith 50 = .ok (.iconst 1, 1) := by decide +kernel
theorem dX9_timeWith_51 : decode cX9_timeWith 51 = .ok (.goto 4, 3) := by decide +kernel
theorem dX9_timeWith_54 : decode cX9_timeWith 54 = .ok (.iconst 0, 1) := by decide +kernel
theorem dX9_timeWith_55 : decode cX9_timeWith 55 = .ok (.invokevirtual 228, 3) := by decide +kernel
theorem dX9_timeWith_58 : decode cX9_timeWith 58 = .ok (.ireturn, 1) := by decide +kernel
theorem dX9_timesNow_0 : decode cX9_timesNow 0 = .ok (.aload_n 0, 1) := by decide +kernel
theorem dX9_timesNow_1 : decode cX9_timesNow 1 = .ok (.getfield 43, 3) := by decide +kernel
theorem dX9_timesNow_4 : decode cX9_timesNow 4 = .ok (.aload_n 0, 1) := by decide +kernel
theorem dX9_timesNow_5 : decode cX9_timesNow 5 = .ok (.getfield 12, 3) := by decide +kernel
theorem dX9_timesNow_8 : decode cX9_timesNow 8 = .ok (.aload_n 0, 1) := by decide +kernel
theorem dX9_timesNow_9 : decode cX9_timesNow 9 = .ok (.getfield 12, 3) := by decide +kernel
theorem dX9_timesNow_12 : decode cX9_timesNow 12 = .ok (.iconst 0, 1) := by decide +kernel
theorem dX9_timesNow_13 : decode cX9_timesNow 13 = .ok (.invokevirtual 151, 3) := by decide +kernel
theorem dX9_timesNow_16 : decode cX9_timesNow 16 = .ok (.aload_n 0, 1) := by decide +kernel
theorem dX9_timesNow_17 : decode cX9_timesNow 17 = .ok (.getfield 12, 3) := by decide +kernel
theorem dX9_timesNow_20 : decode cX9_timesNow 20 = .ok (.iconst 1, 1) := by decide +kernel
theorem dX9_timesNow_21 : decode cX9_timesNow 21 = .ok (.invokevirtual 151, 3) := by decide +kernel
theorem dX9_timesNow_24 : decode cX9_timesNow 24 = .ok (.iadd, 1) := by decide +kernel
theorem dX9_timesNow_25 : decode cX9_timesNow 25 = .ok (.invokevirtual 221, 3) := by decide +kernel
theorem dX9_timesNow_28 : decode cX9_timesNow 28 = .ok (.areturn, 1) := by decide +kernel
theorem dX9_playPad_0 : decode cX9_playPad 0 = .ok (.iconst 0, 1) := by decide +kernel
theorem dX9_playPad_1 : decode cX9_playPad 1 = .ok (.istore_n 1, 1) := by decide +kernel
theorem dX9_playPad_2 : decode cX9_playPad 2 = .ok (.iconst 0, 1) := by decide +kernel
theorem dX9_playPad_3 : decode cX9_playPad 3 = .ok (.istore_n 2, 1) := by decide +kernel
theorem dX9_playPad_4 : decode cX9_playPad 4 = .ok (.iconst 0, 1) := by decide +kernel
theorem dX9_playPad_5 : decode cX9_playPad 5 = .ok (.istore_n 3, 1) := by decide +kernel
theorem dX9_playPad_6 : decode cX9_playPad 6 = .ok (.iconst 0, 1) := by decide +kernel
theorem dX9_playPad_7 : decode cX9_playPad 7 = .ok (.istore 4, 2) := by decide +kernel
theorem dX9_playPad_9 : decode cX9_playPad 9 = .ok (.iload 4, 2) := by decide +kernel
theorem dX9_playPad_11 : decode cX9_playPad 11 = .ok (.aload_n 0, 1) := by decide +kernel
theorem dX9_playPad_12 : decode cX9_playPad 12 = .ok (.getfield 36, 3) := by decide +kernel
theorem dX9_playPad_15 : decode cX9_playPad 15 = .ok (.getfield 178, 3) := by decide +kernel
theorem dX9_playPad_18 : decode cX9_playPad 18 = .ok (.if_icmp .gt 101, 3) := by decide +kernel
theorem dX9_playPad_21 : decode cX9_playPad 21 = .ok (.iload 4, 2) := by decide +kernel
theorem dX9_playPad_23 : decode cX9_playPad 23 = .ok (.aload_n 0, 1) := by decide +kernel
theorem dX9_playPad_24 : decode cX9_playPad 24 = .ok (.getfield 36, 3) := by decide +kernel
theorem dX9_playPad_27 : decode cX9_playPad 27 = .ok (.getfield 178, 3) := by decide +kernel
theorem dX9_playPad_30 : decode cX9_playPad 30 = .ok (.if_icmp .ge 15, 3) := by decide +kernel
theorem dX9_playPad_33 : decode cX9_playPad 33 = .ok (.aload_n 0, 1) := by decide +kernel
theorem dX9_playPad_34 : decode cX9_playPad 34 = .ok (.getfield 36, 3) := by decide +kernel
theorem dX9_playPad_37 : decode cX9_playPad 37 = .ok (.iload 4, 2) := by decide +kernel
theorem dX9_playPad_39 : decode cX9_playPad 39 = .ok (.invokevirtual 234, 3) := by decide +kernel
theorem dX9_playPad_42 : decode cX9_playPad 42 = .ok (.goto 5, 3) := by decide +kernel
theorem dX9_playPad_45 : decode cX9_playPad 45 = .ok (.bipush 44, 2) := by decide +kernel
theorem dX9_playPad_47 : decode cX9_playPad 47 = .ok (.istore 5, 2) := by decide +kernel
theorem dX9_playPad_49 : decode cX9_playPad 49 = .ok (.iload 5, 2) := by decide +kernel
theorem dX9_playPad_51 : decode cX9_playPad 51 = .ok (.bipush 58, 2) := by decide +kernel
theorem dX9_playPad_53 : decode cX9_playPad 53 = .ok (.if_icmp .ne 10, 3) := by decide +kernel
theorem dX9_playPad_56 : decode cX9_playPad 56 = .ok (.iload_n 3, 1) := by decide +kernel
theorem dX9_playPad_57 : decode cX9_playPad 57 = .ok (.istore_n 2, 1) := by decide +kernel
theorem dX9_playPad_58 : decode cX9_playPad 58 = .ok (.iconst 0, 1) := by decide +kernel
theorem dX9_playPad_59 : decode cX9_playPad 59 = .ok (.istore_n 3, 1) := by decide +kernel
theorem dX9_playPad_60 : decode cX9_playPad 60 = .ok (.goto 53, 3) := by decide +kernel
theorem dX9_playPad_63 : decode cX9_playPad 63 = .ok (.iload 5, 2) := by decide +kernel
theorem dX9_playPad_65 : decode cX9_playPad 65 = .ok (.bipush 44, 2) := by decide +kernel
theorem dX9_playPad_67 : decode cX9_playPad 67 = .ok (.if_icmp .ne 35, 3) := by decide +kernel
theorem dX9_playPad_70 : decode cX9_playPad 70 = .ok (.aload_n 0, 1) := by decide +kernel
theorem dX9_playPad_71 : decode cX9_playPad 71 = .ok (.getfield 12, 3) := by decide +kernel
theorem dX9_playPad_74 : decode cX9_playPad 74 = .ok (.iload_n 2, 1) := by decide +kernel
theorem dX9_playPad_75 : decode cX9_playPad 75 = .ok (.iload_n 3, 1) := by decide +kernel
theorem dX9_playPad_76 : decode cX9_playPad 76 = .ok (.invokevirtual 107, 3) := by decide +kernel
theorem dX9_playPad_79 : decode cX9_playPad 79 = .ok (.ifCond .ne 5, 3) := by decide +kernel
theorem dX9_playPad_82 : decode cX9_playPad 82 = .ok (.iload_n 1, 1) := by decide +kernel
theorem dX9_playPad_83 : decode cX9_playPad 83 = .ok (.ireturn, 1) := by decide +kernel
theorem dX9_playPad_84 : decode cX9_playPad 84 = .ok (.aload_n 0, 1) := by decide +kernel
theorem dX9_playPad_85 : decode cX9_playPad 85 = .ok (.getfield 12, 3) := by decide +kernel
theorem dX9_playPad_88 : decode cX9_playPad 88 = .ok (.iload_n 2, 1) := by decide +kernel
theorem dX9_playPad_89 : decode cX9_playPad 89 = .ok (.iload_n 3, 1) := by decide +kernel
theorem dX9_playPad_90 : decode cX9_playPad 90 = .ok (.invokevirtual 111, 3) := by decide +kernel
theorem dX9_playPad_93 : decode cX9_playPad 93 = .ok (.pop, 1) := by decide +kernel
theorem dX9_playPad_94 : decode cX9_playPad 94 = .ok (.iinc 1 1, 3) := by decide +kernel
theorem dX9_playPad_97 : decode cX9_playPad 97 = .ok (.iconst 0, 1) := by decide +kernel
theorem dX9_playPad_98 : decode cX9_playPad 98 = .ok (.istore_n 3, 1) := by decide +kernel
theorem dX9_playPad_99 : decode cX9_playPad 99 = .ok (.goto 14, 3) := by decide +kernel
theorem dX9_playPad_102 : decode cX9_playPad 102 = .ok (.iload_n 3, 1) := by decide +kernel
theorem dX9_playPad_103 : decode cX9_playPad 103 = .ok (.bipush 10, 2) := by decide +kernel
theorem dX9_playPad_105 : decode cX9_playPad 105 = .ok (.imul, 1) := by decide +kernel
theorem dX9_playPad_106 : decode cX9_playPad 106 = .ok (.iload 5, 2) := by decide +kernel
theorem dX9_playPad_108 : decode cX9_playPad 108 = .ok (.iadd, 1) := by decide +kernel
theorem dX9_playPad_109 : decode cX9_playPad 109 = .ok (.bipush 48, 2) := by decide +kernel
theorem dX9_playPad_111 : decode cX9_playPad 111 = .ok (.isub, 1) := by decide +kernel
theorem dX9_playPad_112 : decode cX9_playPad 112 = .ok (.istore_n 3, 1) := by decide +kernel
theorem dX9_playPad_113 : decode cX9_playPad 113 = .ok (.iinc 4 1, 3) := by decide +kernel
theorem dX9_playPad_116 : decode cX9_playPad 116 = .ok (.goto (-107), 3) := by decide +kernel
theorem dX9_playPad_119 : decode cX9_playPad 119 = .ok (.iload_n 1, 1) := by decide +kernel
theorem dX9_playPad_120 : decode cX9_playPad 120 = .ok (.ireturn, 1) := by decide +kernel
theorem dX10_init_0 : decode cX10_init 0 = .ok (.aload_n 0, 1) := by decide +kernel
theorem dX10_init_1 : decode cX10_init 1 = .ok (.invokespecial 1, 3) := by decide +kernel
theorem dX10_init_4 : decode cX10_init 4 = .ok (.aload_n 0, 1) := by decide +kernel
theorem dX10_init_5 : decode cX10_init 5 = .ok (.bipush 19, 2) := by decide +kernel
theorem dX10_init_7 : decode cX10_init 7 = .ok (.newarray .int, 2) := by decide +kernel
theorem dX10_init_9 : decode cX10_init 9 = .ok (.putfield 7, 3) := by decide +kernel
theorem dX10_init_12 : decode cX10_init 12 = .ok (.aload_n 0, 1) := by decide +kernel
theorem dX10_init_13 : decode cX10_init 13 = .ok (.bipush 114, 2) := by decide +kernel
theorem dX10_init_15 : decode cX10_init 15 = .ok (.newarray .int, 2) := by decide +kernel
theorem dX10_init_17 : decode cX10_init 17 = .ok (.putfield 13, 3) := by decide +kernel
theorem dX10_init_20 : decode cX10_init 20 = .ok (.aload_n 0, 1) := by decide +kernel
theorem dX10_init_21 : decode cX10_init 21 = .ok (.bipush 38, 2) := by decide +kernel
theorem dX10_init_23 : decode cX10_init 23 = .ok (.newarray .int, 2) := by decide +kernel
theorem dX10_init_25 : decode cX10_init 25 = .ok (.putfield 16, 3) := by decide +kernel
theorem dX10_init_28 : decode cX10_init 28 = .ok (.aload_n 0, 1) := by decide +kernel
theorem dX10_init_29 : decode cX10_init 29 = .ok (.iconst 2, 1) := by decide +kernel
theorem dX10_init_30 : decode cX10_init 30 = .ok (.newarray .int, 2) := by decide +kernel
theorem dX10_init_32 : decode cX10_init 32 = .ok (.putfield 19, 3) := by decide +kernel
theorem dX10_init_35 : decode cX10_init 35 = .ok (.aload_n 0, 1) := by decide +kernel
theorem dX10_init_36 : decode cX10_init 36 = .ok (.sipush 20412, 3) := by decide +kernel
theorem dX10_init_39 : decode cX10_init 39 = .ok (.newarray .int, 2) := by decide +kernel
theorem dX10_init_41 : decode cX10_init 41 = .ok (.putfield 22, 3) := by decide +kernel
theorem dX10_init_44 : decode cX10_init 44 = .ok (.aload_n 0, 1) := by decide +kernel
theorem dX10_init_45 : decode cX10_init 45 = .ok (.bipush 60, 2) := by decide +kernel
theorem dX10_init_47 : decode cX10_init 47 = .ok (.newarray .int, 2) := by decide +kernel
theorem dX10_init_49 : decode cX10_init 49 = .ok (.putfield 25, 3) := by decide +kernel
theorem dX10_init_52 : decode cX10_init 52 = .ok (.aload_n 0, 1) := by decide +kernel
theorem dX10_init_53 : decode cX10_init 53 = .ok (.bipush 40, 2) := by decide +kernel
theorem dX10_init_55 : decode cX10_init 55 = .ok (.newarray .int, 2) := by decide +kernel
theorem dX10_init_57 : decode cX10_init 57 = .ok (.putfield 28, 3) := by decide +kernel
theorem dX10_init_60 : decode cX10_init 60 = .ok (.aload_n 0, 1) := by decide +kernel
theorem dX10_init_61 : decode cX10_init 61 = .ok (.getfield 7, 3) := by decide +kernel
theorem dX10_init_64 : decode cX10_init 64 = .ok (.iconst 0, 1) := by decide +kernel
theorem dX10_init_65 : decode cX10_init 65 = .ok (.iconst 2, 1) := by decide +kernel
theorem dX10_init_66 : decode cX10_init 66 = .ok (.iastore, 1) := by decide +kernel
theorem dX10_init_67 : decode cX10_init 67 = .ok (.aload_n 0, 1) := by decide +kernel
theorem dX10_init_68 : decode cX10_init 68 = .ok (.getfield 7, 3) := by decide +kernel
theorem dX10_init_71 : decode cX10_init 71 = .ok (.bipush 9, 2) := by decide +kernel
theorem dX10_init_73 : decode cX10_init 73 = .ok (.iconst 4, 1) := by decide +kernel
theorem dX10_init_74 : decode cX10_init 74 = .ok (.iastore, 1) := by decide +kernel
theorem dX10_init_75 : decode cX10_init 75 = .ok (.aload_n 0, 1) := by decide +kernel
theorem dX10_init_76 : decode cX10_init 76 = .ok (.getfield 7, 3) := by decide +kernel
theorem dX10_init_79 : decode cX10_init 79 = .ok (.bipush 10, 2) := by decide +kernel
theorem dX10_init_81 : decode cX10_init 81 = .ok (.iconst 4, 1) := by decide +kernel
theorem dX10_init_82 : decode cX10_init 82 = .ok (.iastore, 1) := by decide +kernel
theorem dX10_init_83 : decode cX10_init 83 = .ok (.aload_n 0, 1) := by decide +kernel
theorem dX10_init_84 : decode cX10_init 84 = .ok (.invokevirtual 31, 3) := by decide +kernel
theorem dX10_init_87 : decode cX10_init 87 = .ok (.return_, 1) := by decide +kernel
theorem dX10_in_0 : decode cX10_in 0 = .ok (.lload_n 0, 1) := by decide +kernel
theorem dX10_in_1 : decode cX10_in 1 = .ok (.lload_n 2, 1) := by decide +kernel
theorem dX10_in_2 : decode cX10_in 2 = .ok (.lcmp, 1) := by decide +kernel
theorem dX10_in_3 : decode cX10_in 3 = .ok (.ifCond .lt 14, 3) := by decide +kernel
theorem dX10_in_6 : decode cX10_in 6 = .ok (.lload_n 0, 1) := by decide +kernel
theorem dX10_in_7 : decode cX10_in 7 = .ok (.lload 4, 2) := by decide +kernel
theorem dX10_in_9 : decode cX10_in 9 = .ok (.lcmp, 1) := by decide +kernel
theorem dX10_in_10 : decode cX10_in 10 = .ok (.ifCond .gt 7, 3) := by decide +kernel
theorem dX10_in_13 : decode cX10_in 13 = .ok (.iconst 1, 1) := by decide +kernel
theorem dX10_in_14 : decode cX10_in 14 = .ok (.goto 4, 3) := by decide +kernel
theorem dX10_in_17 : decode cX10_in 17 = .ok (.iconst 0, 1) := by decide +kernel
theorem dX10_in_18 : decode cX10_in 18 = .ok (.ireturn, 1) := by decide +kernel
theorem dX10_changes_0 : decode cX10_changes 0 = .ok (.aload_n 0, 1) := by decide +kernel
theorem dX10_changes_1 : decode cX10_changes 1 = .ok (.getfield 34, 3) := by decide +kernel
theorem dX10_changes_4 : decode cX10_changes 4 = .ok (.bipush 6, 2) := by decide +kernel
theorem dX10_changes_6 : decode cX10_changes 6 = .ok (.if_icmp .ne 42, 3) := by decide +kernel
theorem dX10_changes_9 : decode cX10_changes 9 = .ok (.iconst 0, 1) := by decide +kernel
theorem dX10_changes_10 : decode cX10_changes 10 = .ok (.istore_n 1, 1) := by decide +kernel
theorem dX10_changes_11 : decode cX10_changes 11 = .ok (.iload_n 1, 1) := by decide +kernel
theorem dX10_changes_12 : decode cX10_changes 12 = .ok (.bipush 95, 2) := by decide +kernel
theorem dX10_changes_14 : decode cX10_changes 14 = .ok (.if_icmp .ge 24, 3) := by decide +kernel
theorem dX10_changes_17 : decode cX10_changes 17 = .ok (.aload_n 0, 1) := by decide +kernel
theorem dX10_changes_18 : decode cX10_changes 18 = .ok (.getfield 13, 3) := by decide +kernel
theorem dX10_changes_21 : decode cX10_changes 21 = .ok (.iload_n 1, 1) := by decide +kernel
theorem dX10_changes_22 : decode cX10_changes 22 = .ok (.aload_n 0, 1) := by decide +kernel
theorem dX10_changes_23 : decode cX10_changes 23 = .ok (.getfield 13, 3) := by decide +kernel
theorem dX10_changes_26 : decode cX10_changes 26 = .ok (.iload_n 1, 1) := by decide +kernel
theorem dX10_changes_27 : decode cX10_changes 27 = .ok (.bipush 19, 2) := by decide +kernel
theorem dX10_changes_29 : decode cX10_changes 29 = .ok (.iadd, 1) := by decide +kernel
theorem dX10_changes_30 : decode cX10_changes 30 = .ok (.iaload, 1) := by decide +kernel
theorem dX10_changes_31 : decode cX10_changes 31 = .ok (.iastore, 1) := by decide +kernel
theorem dX10_changes_32 : decode cX10_changes 32 = .ok (.iinc 1 1, 3) := by decide +kernel
theorem dX10_changes_35 : decode cX10_changes 35 = .ok (.goto (-24), 3) := by decide +kernel
theorem dX10_changes_38 : decode cX10_changes 38 = .ok (.aload_n 0, 1) := by decide +kernel
theorem dX10_changes_39 : decode cX10_changes 39 = .ok (.dup, 1) := by decide +kernel
theorem dX10_changes_40 : decode cX10_changes 40 = .ok (.getfield 34, 3) := by decide +kernel
theorem dX10_changes_43 : decode cX10_changes 43 = .ok (.iconst 1, 1) := by decide +kernel
theorem dX10_changes_44 : decode cX10_changes 44 = .ok (.isub, 1) := by decide +kernel
theorem dX10_changes_45 : decode cX10_changes 45 = .ok (.putfield 34, 3) := by decide +kernel
theorem dX10_changes_48 : decode cX10_changes 48 = .ok (.iconst 0, 1) := by decide +kernel
theorem dX10_changes_49 : decode cX10_changes 49 = .ok (.istore_n 1, 1) := by decide +kernel
theorem dX10_changes_50 : decode cX10_changes 50 = .ok (.iload_n 1, 1) := by decide +kernel
theorem dX10_changes_51 : decode cX10_changes 51 = .ok (.bipush 19, 2) := by decide +kernel
theorem dX10_changes_53 : decode cX10_changes 53 = .ok (.if_icmp .ge 29, 3) := by decide +kernel
theorem dX10_changes_56 : decode cX10_changes 56 = .ok (.aload_n 0, 1) := by decide +kernel
theorem dX10_changes_57 : decode cX10_changes 57 = .ok (.getfield 13, 3) := by decide +kernel
theorem dX10_changes_60 : decode cX10_changes 60 = .ok (.bipush 19, 2) := by decide +kernel
theorem dX10_changes_62 : decode cX10_changes 62 = .ok (.aload_n 0, 1) := by decide +kernel
theorem dX10_changes_63 : decode cX10_changes 63 = .ok (.getfield 34, 3) := by decide +kernel
theorem dX10_changes_66 : decode cX10_changes 66 = .ok (.imul, 1) := by decide +kernel
theorem dX10_changes_67 : decode cX10_changes 67 = .ok (.iload_n 1, 1) := by decide +kernel
theorem dX10_changes_68 : decode cX10_changes 68 = .ok (.iadd, 1) := by decide +kernel
theorem dX10_changes_69 : decode cX10_changes 69 = .ok (.aload_n 0, 1) := by decide +kernel
theorem dX10_changes_70 : decode cX10_changes 70 = .ok (.getfield 7, 3) := by decide +kernel
theorem dX10_changes_73 : decode cX10_changes 73 = .ok (.iload_n 1, 1) := by decide +kernel
theorem dX10_changes_74 : decode cX10_changes 74 = .ok (.iaload, 1) := by decide +kernel
theorem dX10_changes_75 : decode cX10_changes 75 = .ok (.iastore, 1) := by decide +kernel
theorem dX10_changes_76 : decode cX10_changes 76 = .ok (.iinc 1 1, 3) := by decide +kernel
theorem dX10_changes_79 : decode cX10_changes 79 = .ok (.goto (-29), 3) := by decide +kernel
theorem dX10_changes_82 : decode cX10_changes 82 = .ok (.aload_n 0, 1) := by decide +kernel
theorem dX10_changes_83 : decode cX10_changes 83 = .ok (.dup, 1) := by decide +kernel
theorem dX10_changes_84 : decode cX10_changes 84 = .ok (.getfield 34, 3) := by decide +kernel
theorem dX10_changes_87 : decode cX10_changes 87 = .ok (.iconst 1, 1) := by decide +kernel
theorem dX10_changes_88 : decode cX10_changes 88 = .ok (.iadd, 1) := by decide +kernel
theorem dX10_changes_89 : decode cX10_changes 89 = .ok (.putfield 34, 3) := by decide +kernel
theorem dX10_changes_92 : decode cX10_changes 92 = .ok (.return_, 1) := by decide +kernel
theorem dX10_newGame_0 : decode cX10_newGame 0 = .ok (.aload_n 0, 1) := by decide +kernel
theorem dX10_newGame_1 : decode cX10_newGame 1 = .ok (.getfield 7, 3) := by decide +kernel
theorem dX10_newGame_4 : decode cX10_newGame 4 = .ok (.iconst 4, 1) := by decide +kernel
theorem dX10_newGame_5 : decode cX10_newGame 5 = .ok (.iconst 0, 1) := by decide +kernel
theorem dX10_newGame_6 : decode cX10_newGame 6 = .ok (.iastore, 1) := by decide +kernel
theorem dX10_newGame_7 : decode cX10_newGame 7 = .ok (.aload_n 0, 1) := by decide +kernel
theorem dX10_newGame_8 : decode cX10_newGame 8 = .ok (.getfield 7, 3) := by decide +kernel
theorem dX10_newGame_11 : decode cX10_newGame 11 = .ok (.iconst 5, 1) := by decide +kernel
theorem dX10_newGame_12 : decode cX10_newGame 12 = .ok (.iconst 0, 1) := by decide +kernel
theorem dX10_newGame_13 : decode cX10_newGame 13 = .ok (.iastore, 1) := by decide +kernel
theorem dX10_newGame_14 : decode cX10_newGame 14 = .ok (.aload_n 0, 1) := by decide +kernel
theorem dX10_newGame_15 : decode cX10_newGame 15 = .ok (.getfield 7, 3) := by decide +kernel
theorem dX10_newGame_18 : decode cX10_newGame 18 = .ok (.bipush 6, 2) := by decide +kernel
theorem dX10_newGame_20 : decode cX10_newGame 20 = .ok (.iconst 0, 1) := by decide +kernel
theorem dX10_newGame_21 : decode cX10_newGame 21 = .ok (.iastore, 1) := by decide +kernel
theorem dX10_newGame_22 : decode cX10_newGame 22 = .ok (.aload_n 0, 1) := by decide +kernel
theorem dX10_newGame_23 : decode cX10_newGame 23 = .ok (.getfield 7, 3) := by decide +kernel
theorem dX10_newGame_26 : decode cX10_newGame 26 = .ok (.bipush 17, 2) := by decide +kernel
theorem dX10_newGame_28 : decode cX10_newGame 28 = .ok (.iconst 0, 1) := by decide +kernel
theorem dX10_newGame_29 : decode cX10_newGame 29 = .ok (.iastore, 1) := by decide +kernel
theorem dX10_newGame_30 : decode cX10_newGame 30 = .ok (.iconst 0, 1) := by decide +kernel
theorem dX10_newGame_31 : decode cX10_newGame 31 = .ok (.istore_n 1, 1) := by decide +kernel
theorem dX10_newGame_32 : decode cX10_newGame 32 = .ok (.iload_n 1, 1) := by decide +kernel
theorem dX10_newGame_33 : decode cX10_newGame 33 = .ok (.iconst 2, 1) := by decide +kernel
theorem dX10_newGame_34 : decode cX10_newGame 34 = .ok (.if_icmp .ge 47, 3) := by decide +kernel
theorem dX10_newGame_37 : decode cX10_newGame 37 = .ok (.aload_n 0, 1) := by decide +kernel
theorem dX10_newGame_38 : decode cX10_newGame 38 = .ok (.getfield 7, 3) := by decide +kernel
theorem dX10_newGame_41 : decode cX10_newGame 41 = .ok (.bipush 7, 2) := by decide +kernel
theorem dX10_newGame_43 : decode cX10_newGame 43 = .ok (.iload_n 1, 1) := by decide +kernel
theorem dX10_newGame_44 : decode cX10_newGame 44 = .ok (.iadd, 1) := by decide +kernel
theorem dX10_newGame_45 : decode cX10_newGame 45 = .ok (.aload_n 0, 1) := by decide +kernel
theorem dX10_newGame_46 : decode cX10_newGame 46 = .ok (.getfield 7, 3) := by decide +kernel
theorem dX10_newGame_49 : decode cX10_newGame 49 = .ok (.bipush 9, 2) := by decide +kernel
theorem dX10_newGame_51 : decode cX10_newGame 51 = .ok (.iload_n 1, 1) := by decide +kernel
theorem dX10_newGame_52 : decode cX10_newGame 52 = .ok (.iadd, 1) := by decide +kernel
theorem dX10_newGame_53 : decode cX10_newGame 53 = .ok (.iaload, 1) := by decide +kernel
theorem dX10_newGame_54 : decode cX10_newGame 54 = .ok (.iastore, 1) := by decide +kernel
theorem dX10_newGame_55 : decode cX10_newGame 55 = .ok (.aload_n 0, 1) := by decide +kernel
theorem dX10_newGame_56 : decode cX10_newGame 56 = .ok (.getfield 7, 3) := by decide +kernel
theorem dX10_newGame_59 : decode cX10_newGame 59 = .ok (.bipush 11, 2) := by decide +kernel
theorem dX10_newGame_61 : decode cX10_newGame 61 = .ok (.iload_n 1, 1) := by decide +kernel
theorem dX10_newGame_62 : decode cX10_newGame 62 = .ok (.iadd, 1) := by decide +kernel
theorem dX10_newGame_63 : decode cX10_newGame 63 = .ok (.iconst 0, 1) := by decide +kernel
theorem dX10_newGame_64 : decode cX10_newGame 64 = .ok (.iastore, 1) := by decide +kernel
theorem dX10_newGame_65 : decode cX10_newGame 65 = .ok (.aload_n 0, 1) := by decide +kernel
theorem dX10_newGame_66 : decode cX10_newGame 66 = .ok (.getfield 7, 3) := by decide +kernel
theorem dX10_newGame_69 : decode cX10_newGame 69 = .ok (.bipush 13, 2) := by decide +kernel
theorem dX10_newGame_71 : decode cX10_newGame 71 = .ok (.iload_n 1, 1) := by decide +kernel
theorem dX10_newGame_72 : decode cX10_newGame 72 = .ok (.iadd, 1) := by decide +kernel
theorem dX10_newGame_73 : decode cX10_newGame 73 = .ok (.iconst 0, 1) := by decide +kernel
theorem dX10_newGame_74 : decode cX10_newGame 74 = .ok (.iastore, 1) := by decide +kernel
theorem dX10_newGame_75 : decode cX10_newGame 75 = .ok (.iinc 1 1, 3) := by decide +kernel
theorem dX10_newGame_78 : decode cX10_newGame 78 = .ok (.goto (-46), 3) := by decide +kernel
theorem dX10_newGame_81 : decode cX10_newGame 81 = .ok (.return_, 1) := by decide +kernel
theorem dX10_isPlayer_0 : decode cX10_isPlayer 0 = .ok (.iload_n 0, 1) := by decide +kernel
theorem dX10_isPlayer_1 : decode cX10_isPlayer 1 = .ok (.ifCond .eq 8, 3) := by decide +kernel
theorem dX10_isPlayer_4 : decode cX10_isPlayer 4 = .ok (.iload_n 0, 1) := by decide +kernel
theorem dX10_isPlayer_5 : decode cX10_isPlayer 5 = .ok (.iconst 1, 1) := by decide +kernel
theorem dX10_isPlayer_6 : decode cX10_isPlayer 6 = .ok (.if_icmp .ne 7, 3) := by decide +kernel
theorem dX10_isPlayer_9 : decode cX10_isPlayer 9 = .ok (.iconst 1, 1) := by decide +kernel
theorem dX10_isPlayer_10 : decode cX10_isPlayer 10 = .ok (.goto 4, 3) := by decide +kernel
theorem dX10_isPlayer_13 : decode cX10_isPlayer 13 = .ok (.iconst 0, 1) := by decide +kernel
theorem dX10_isPlayer_14 : decode cX10_isPlayer 14 = .ok (.ireturn, 1) := by decide +kernel
theorem dX10_winnerAt_0 : decode cX10_winnerAt 0 = .ok (.iload_n 1, 1) := by decide +kernel
theorem dX10_winnerAt_1 : decode cX10_winnerAt 1 = .ok (.aload_n 0, 1) := by decide +kernel
theorem dX10_winnerAt_2 : decode cX10_winnerAt 2 = .ok (.getfield 7, 3) := by decide +kernel
theorem dX10_winnerAt_5 : decode cX10_winnerAt 5 = .ok (.iconst 0, 1) := by decide +kernel
theorem dX10_winnerAt_6 : decode cX10_winnerAt 6 = .ok (.iaload, 1) := by decide +kernel
theorem dX10_winnerAt_7 : decode cX10_winnerAt 7 = .ok (.if_icmp .ne 7, 3) := by decide +kernel
theorem dX10_winnerAt_10 : decode cX10_winnerAt 10 = .ok (.iconst 0, 1) := by decide +kernel
theorem dX10_winnerAt_11 : decode cX10_winnerAt 11 = .ok (.goto 21, 3) := by decide +kernel
theorem dX10_winnerAt_14 : decode cX10_winnerAt 14 = .ok (.iload_n 1, 1) := by decide +kernel
theorem dX10_winnerAt_15 : decode cX10_winnerAt 15 = .ok (.aload_n 0, 1) := by decide +kernel
theorem dX10_winnerAt_16 : decode cX10_winnerAt 16 = .ok (.getfield 7, 3) := by decide +kernel
theorem dX10_winnerAt_19 : decode cX10_winnerAt 19 = .ok (.iconst 0, 1) := by decide +kernel
theorem dX10_winnerAt_20 : decode cX10_winnerAt 20 = .ok (.iaload, 1) := by decide +kernel
theorem dX10_winnerAt_21 : decode cX10_winnerAt 21 = .ok (.ineg, 1) := by decide +kernel
theorem dX10_winnerAt_22 : decode cX10_winnerAt 22 = .ok (.if_icmp .ne 7, 3) := by decide +kernel
theorem dX10_winnerAt_25 : decode cX10_winnerAt 25 = .ok (.iconst 1, 1) := by decide +kernel
theorem dX10_winnerAt_26 : decode cX10_winnerAt 26 = .ok (.goto 6, 3) := by decide +kernel
theorem dX10_winnerAt_29 : decode cX10_winnerAt 29 = .ok (.sipush (-1006), 3) := by decide +kernel
theorem dX10_winnerAt_32 : decode cX10_winnerAt 32 = .ok (.ireturn, 1) := by decide +kernel
theorem dX10_isOver_0 : decode cX10_isOver 0 = .ok (.aload_n 0, 1) := by decide +kernel
theorem dX10_isOver_1 : decode cX10_isOver 1 = .ok (.aload_n 0, 1) := by decide +kernel
theorem dX10_isOver_2 : decode cX10_isOver 2 = .ok (.getfield 7, 3) := by decide +kernel
theorem dX10_isOver_5 : decode cX10_isOver 5 = .ok (.iconst 4, 1) := by decide +kernel
theorem dX10_isOver_6 : decode cX10_isOver 6 = .ok (.iaload, 1) := by decide +kernel
theorem dX10_isOver_7 : decode cX10_isOver 7 = .ok (.invokevirtual 38, 3) := by decide +kernel
theorem dX10_isOver_10 : decode cX10_isOver 10 = .ok (.sipush (-1006), 3) := by decide +kernel
theorem dX10_isOver_13 : decode cX10_isOver 13 = .ok (.if_icmp .eq 7, 3) := by decide +kernel
theorem dX10_isOver_16 : decode cX10_isOver 16 = .ok (.iconst 1, 1) := by decide +kernel
theorem dX10_isOver_17 : decode cX10_isOver 17 = .ok (.goto 4, 3) := by decide +kernel
theorem dX10_isOver_20 : decode cX10_isOver 20 = .ok (.iconst 0, 1) := by decide +kernel
theorem dX10_isOver_21 : decode cX10_isOver 21 = .ok (.ireturn, 1) := by decide +kernel
theorem dX10_most_0 : decode cX10_most 0 = .ok (.aload_n 0, 1) := by decide +kernel
theorem dX10_most_1 : decode cX10_most 1 = .ok (.getfield 7, 3) := by decide +kernel
theorem dX10_most_4 : decode cX10_most 4 = .ok (.bipush 7, 2) := by decide +kernel
theorem dX10_most_6 : decode cX10_most 6 = .ok (.iload_n 1, 1) := by decide +kernel
theorem dX10_most_7 : decode cX10_most 7 = .ok (.iadd, 1) := by decide +kernel
theorem dX10_most_8 : decode cX10_most 8 = .ok (.iaload, 1) := by decide +kernel
theorem dX10_most_9 : decode cX10_most 9 = .ok (.aload_n 0, 1) := by decide +kernel
theorem dX10_most_10 : decode cX10_most 10 = .ok (.getfield 7, 3) := by decide +kernel
theorem dX10_most_13 : decode cX10_most 13 = .ok (.iconst 1, 1) := by decide +kernel
theorem dX10_most_14 : decode cX10_most 14 = .ok (.iaload, 1) := by decide +kernel
theorem dX10_most_15 : decode cX10_most 15 = .ok (.iadd, 1) := by decide +kernel
theorem dX10_most_16 : decode cX10_most 16 = .ok (.ireturn, 1) := by decide +kernel
theorem dX10_taker_0 : decode cX10_taker 0 = .ok (.iload_n 2, 1) := by decide +kernel
theorem dX10_taker_1 : decode cX10_taker 1 = .ok (.iload_n 3, 1) := by decide +kernel
theorem dX10_taker_2 : decode cX10_taker 2 = .ok (.if_icmp .gt 17, 3) := by decide +kernel
theorem dX10_taker_5 : decode cX10_taker 5 = .ok (.iload_n 2, 1) := by decide +kernel
theorem dX10_taker_6 : decode cX10_taker 6 = .ok (.iload_n 3, 1) := by decide +kernel
theorem dX10_taker_7 : decode cX10_taker 7 = .ok (.if_icmp .ne 16, 3) := by decide +kernel
theorem dX10_taker_10 : decode cX10_taker 10 = .ok (.aload_n 0, 1) := by decide +kernel
theorem dX10_taker_11 : decode cX10_taker 11 = .ok (.getfield 7, 3) := by decide +kernel
theorem dX10_taker_14 : decode cX10_taker 14 = .ok (.iconst 3, 1) := by decide +kernel
theorem dX10_taker_15 : decode cX10_taker 15 = .ok (.iaload, 1) := by decide +kernel
theorem dX10_taker_16 : decode cX10_taker 16 = .ok (.ifCond .ne 7, 3) := by decide +kernel
theorem dX10_taker_19 : decode cX10_taker 19 = .ok (.iload_n 1, 1) := by decide +kernel
theorem dX10_taker_20 : decode cX10_taker 20 = .ok (.goto 6, 3) := by decide +kernel
theorem dX10_taker_23 : decode cX10_taker 23 = .ok (.iconst 1, 1) := by decide +kernel
theorem dX10_taker_24 : decode cX10_taker 24 = .ok (.iload_n 1, 1) := by decide +kernel
theorem dX10_taker_25 : decode cX10_taker 25 = .ok (.isub, 1) := by decide +kernel
theorem dX10_taker_26 : decode cX10_taker 26 = .ok (.ireturn, 1) := by decide +kernel
theorem dX10_plays_0 : decode cX10_plays 0 = .ok (.aload_n 0, 1) := by decide +kernel
theorem dX10_plays_1 : decode cX10_plays 1 = .ok (.aload_n 0, 1) := by decide +kernel
theorem dX10_plays_2 : decode cX10_plays 2 = .ok (.getfield 7, 3) := by decide +kernel
theorem dX10_plays_5 : decode cX10_plays 5 = .ok (.iconst 5, 1) := by decide +kernel
theorem dX10_plays_6 : decode cX10_plays 6 = .ok (.iaload, 1) := by decide +kernel
theorem dX10_plays_7 : decode cX10_plays 7 = .ok (.iload_n 1, 1) := by decide +kernel
theorem dX10_plays_8 : decode cX10_plays 8 = .ok (.iload_n 2, 1) := by decide +kernel
theorem dX10_plays_9 : decode cX10_plays 9 = .ok (.invokevirtual 42, 3) := by decide +kernel
theorem dX10_plays_12 : decode cX10_plays 12 = .ok (.istore_n 3, 1) := by decide +kernel
theorem dX10_plays_13 : decode cX10_plays 13 = .ok (.iload_n 3, 1) := by decide +kernel
theorem dX10_plays_14 : decode cX10_plays 14 = .ok (.aload_n 0, 1) := by decide +kernel
theorem dX10_plays_15 : decode cX10_plays 15 = .ok (.getfield 7, 3) := by decide +kernel
theorem dX10_plays_18 : decode cX10_plays 18 = .ok (.iconst 5, 1) := by decide +kernel
theorem dX10_plays_19 : decode cX10_plays 19 = .ok (.iaload, 1) := by decide +kernel
theorem dX10_plays_20 : decode cX10_plays 20 = .ok (.if_icmp .ne 7, 3) := by decide +kernel
theorem dX10_plays_23 : decode cX10_plays 23 = .ok (.iload_n 1, 1) := by decide +kernel
theorem dX10_plays_24 : decode cX10_plays 24 = .ok (.goto 4, 3) := by decide +kernel
theorem dX10_plays_27 : decode cX10_plays 27 = .ok (.iload_n 2, 1) := by decide +kernel
theorem dX10_plays_28 : decode cX10_plays 28 = .ok (.istore 4, 2) := by decide +kernel
theorem dX10_plays_30 : decode cX10_plays 30 = .ok (.aload_n 0, 1) := by decide +kernel
theorem dX10_plays_31 : decode cX10_plays 31 = .ok (.getfield 7, 3) := by decide +kernel
theorem dX10_plays_34 : decode cX10_plays 34 = .ok (.bipush 7, 2) := by decide +kernel
theorem dX10_plays_36 : decode cX10_plays 36 = .ok (.iload_n 3, 1) := by decide +kernel
theorem dX10_plays_37 : decode cX10_plays 37 = .ok (.iadd, 1) := by decide +kernel
theorem dX10_plays_38 : decode cX10_plays 38 = .ok (.dup2, 1) := by decide +kernel
theorem dX10_plays_39 : decode cX10_plays 39 = .ok (.iaload, 1) := by decide +kernel
theorem dX10_plays_40 : decode cX10_plays 40 = .ok (.iload 4, 2) := by decide +kernel
theorem dX10_plays_42 : decode cX10_plays 42 = .ok (.isub, 1) := by decide +kernel
theorem dX10_plays_43 : decode cX10_plays 43 = .ok (.iastore, 1) := by decide +kernel
theorem dX10_plays_44 : decode cX10_plays 44 = .ok (.aload_n 0, 1) := by decide +kernel
theorem dX10_plays_45 : decode cX10_plays 45 = .ok (.getfield 7, 3) := by decide +kernel
theorem dX10_plays_48 : decode cX10_plays 48 = .ok (.bipush 8, 2) := by decide +kernel
theorem dX10_plays_50 : decode cX10_plays 50 = .ok (.iload_n 3, 1) := by decide +kernel
theorem dX10_plays_51 : decode cX10_plays 51 = .ok (.isub, 1) := by decide +kernel
theorem dX10_plays_52 : decode cX10_plays 52 = .ok (.dup2, 1) := by decide +kernel
theorem dX10_plays_53 : decode cX10_plays 53 = .ok (.iaload, 1) := by decide +kernel
theorem dX10_plays_54 : decode cX10_plays 54 = .ok (.aload_n 0, 1) := by decide +kernel
theorem dX10_plays_55 : decode cX10_plays 55 = .ok (.getfield 7, 3) := by decide +kernel
theorem dX10_plays_58 : decode cX10_plays 58 = .ok (.iconst 2, 1) := by decide +kernel
theorem dX10_plays_59 : decode cX10_plays 59 = .ok (.iaload, 1) := by decide +kernel
theorem dX10_plays_60 : decode cX10_plays 60 = .ok (.ifCond .ne 8, 3) := by decide +kernel
theorem dX10_plays_63 : decode cX10_plays 63 = .ok (.iload 4, 2) := by decide +kernel
theorem dX10_plays_65 : decode cX10_plays 65 = .ok (.goto 4, 3) := by decide +kernel
theorem dX10_plays_68 : decode cX10_plays 68 = .ok (.iconst 0, 1) := by decide +kernel
theorem dX10_plays_69 : decode cX10_plays 69 = .ok (.iadd, 1) := by decide +kernel
theorem dX10_plays_70 : decode cX10_plays 70 = .ok (.iastore, 1) := by decide +kernel
theorem dX10_plays_71 : decode cX10_plays 71 = .ok (.aload_n 0, 1) := by decide +kernel
theorem dX10_plays_72 : decode cX10_plays 72 = .ok (.getfield 7, 3) := by decide +kernel
theorem dX10_plays_75 : decode cX10_plays 75 = .ok (.bipush 17, 2) := by decide +kernel
theorem dX10_plays_77 : decode cX10_plays 77 = .ok (.dup2, 1) := by decide +kernel
theorem dX10_plays_78 : decode cX10_plays 78 = .ok (.iaload, 1) := by decide +kernel
theorem dX10_plays_79 : decode cX10_plays 79 = .ok (.aload_n 0, 1) := by decide +kernel
theorem dX10_plays_80 : decode cX10_plays 80 = .ok (.getfield 7, 3) := by decide +kernel
theorem dX10_plays_83 : decode cX10_plays 83 = .ok (.iconst 2, 1) := by decide +kernel
theorem dX10_plays_84 : decode cX10_plays 84 = .ok (.iaload, 1) := by decide +kernel
theorem dX10_plays_85 : decode cX10_plays 85 = .ok (.iconst 1, 1) := by decide +kernel
theorem dX10_plays_86 : decode cX10_plays 86 = .ok (.if_icmp .ne 8, 3) := by decide +kernel
theorem dX10_plays_89 : decode cX10_plays 89 = .ok (.iload 4, 2) := by decide +kernel
theorem dX10_plays_91 : decode cX10_plays 91 = .ok (.goto 4, 3) := by decide +kernel
theorem dX10_plays_94 : decode cX10_plays 94 = .ok (.iconst 0, 1) := by decide +kernel
theorem dX10_plays_95 : decode cX10_plays 95 = .ok (.iadd, 1) := by decide +kernel
theorem dX10_plays_96 : decode cX10_plays 96 = .ok (.iastore, 1) := by decide +kernel
theorem dX10_plays_97 : decode cX10_plays 97 = .ok (.aload_n 0, 1) := by decide +kernel
theorem dX10_plays_98 : decode cX10_plays 98 = .ok (.getfield 7, 3) := by decide +kernel
theorem dX10_plays_101 : decode cX10_plays 101 = .ok (.bipush 11, 2) := by decide +kernel
theorem dX10_plays_103 : decode cX10_plays 103 = .ok (.iload_n 3, 1) := by decide +kernel
theorem dX10_plays_104 : decode cX10_plays 104 = .ok (.iadd, 1) := by decide +kernel
theorem dX10_plays_105 : decode cX10_plays 105 = .ok (.dup2, 1) := by decide +kernel
theorem dX10_plays_106 : decode cX10_plays 106 = .ok (.iaload, 1) := by decide +kernel
theorem dX10_plays_107 : decode cX10_plays 107 = .ok (.iload 4, 2) := by decide +kernel
theorem dX10_plays_109 : decode cX10_plays 109 = .ok (.iadd, 1) := by decide +kernel
theorem dX10_plays_110 : decode cX10_plays 110 = .ok (.iastore, 1) := by decide +kernel
theorem dX10_plays_111 : decode cX10_plays 111 = .ok (.aload_n 0, 1) := by decide +kernel
theorem dX10_plays_112 : decode cX10_plays 112 = .ok (.getfield 7, 3) := by decide +kernel
theorem dX10_plays_115 : decode cX10_plays 115 = .ok (.bipush 13, 2) := by decide +kernel
theorem dX10_plays_117 : decode cX10_plays 117 = .ok (.iload_n 3, 1) := by decide +kernel
theorem dX10_plays_118 : decode cX10_plays 118 = .ok (.iadd, 1) := by decide +kernel
theorem dX10_plays_119 : decode cX10_plays 119 = .ok (.dup2, 1) := by decide +kernel
theorem dX10_plays_120 : decode cX10_plays 120 = .ok (.iaload, 1) := by decide +kernel
theorem dX10_plays_121 : decode cX10_plays 121 = .ok (.iconst 1, 1) := by decide +kernel
theorem dX10_plays_122 : decode cX10_plays 122 = .ok (.iadd, 1) := by decide +kernel
theorem dX10_plays_123 : decode cX10_plays 123 = .ok (.iastore, 1) := by decide +kernel
theorem dX10_plays_124 : decode cX10_plays 124 = .ok (.aload_n 0, 1) := by decide +kernel
theorem dX10_plays_125 : decode cX10_plays 125 = .ok (.getfield 7, 3) := by decide +kernel
theorem dX10_plays_128 : decode cX10_plays 128 = .ok (.iconst 4, 1) := by decide +kernel
theorem dX10_plays_129 : decode cX10_plays 129 = .ok (.dup2, 1) := by decide +kernel
theorem dX10_plays_130 : decode cX10_plays 130 = .ok (.iaload, 1) := by decide +kernel
theorem dX10_plays_131 : decode cX10_plays 131 = .ok (.iload_n 3, 1) := by decide +kernel
theorem dX10_plays_132 : decode cX10_plays 132 = .ok (.ifCond .ne 7, 3) := by decide +kernel
theorem dX10_plays_135 : decode cX10_plays 135 = .ok (.iconst 1, 1) := by decide +kernel
theorem dX10_plays_136 : decode cX10_plays 136 = .ok (.goto 4, 3) := by decide +kernel
theorem dX10_plays_139 : decode cX10_plays 139 = .ok (.iconst (-1), 1) := by decide +kernel
theorem dX10_plays_140 : decode cX10_plays 140 = .ok (.iadd, 1) := by decide +kernel
theorem dX10_plays_141 : decode cX10_plays 141 = .ok (.iastore, 1) := by decide +kernel
theorem dX10_plays_142 : decode cX10_plays 142 = .ok (.aload_n 0, 1) := by decide +kernel
theorem dX10_plays_143 : decode cX10_plays 143 = .ok (.getfield 7, 3) := by decide +kernel
theorem dX10_plays_146 : decode cX10_plays 146 = .ok (.iconst 5, 1) := by decide +kernel
theorem dX10_plays_147 : decode cX10_plays 147 = .ok (.iconst 1, 1) := by decide +kernel
theorem dX10_plays_148 : decode cX10_plays 148 = .ok (.aload_n 0, 1) := by decide +kernel
theorem dX10_plays_149 : decode cX10_plays 149 = .ok (.getfield 7, 3) := by decide +kernel
theorem dX10_plays_152 : decode cX10_plays 152 = .ok (.iconst 5, 1) := by decide +kernel
theorem dX10_plays_153 : decode cX10_plays 153 = .ok (.iaload, 1) := by decide +kernel
theorem dX10_plays_154 : decode cX10_plays 154 = .ok (.isub, 1) := by decide +kernel
theorem dX10_plays_155 : decode cX10_plays 155 = .ok (.iastore, 1) := by decide +kernel
theorem dX10_plays_156 : decode cX10_plays 156 = .ok (.aload_n 0, 1) := by decide +kernel
theorem dX10_plays_157 : decode cX10_plays 157 = .ok (.getfield 7, 3) := by decide +kernel
theorem dX10_plays_160 : decode cX10_plays 160 = .ok (.bipush 6, 2) := by decide +kernel
theorem dX10_plays_162 : decode cX10_plays 162 = .ok (.dup2, 1) := by decide +kernel
theorem dX10_plays_163 : decode cX10_plays 163 = .ok (.iaload, 1) := by decide +kernel
theorem dX10_plays_164 : decode cX10_plays 164 = .ok (.iconst 1, 1) := by decide +kernel
theorem dX10_plays_165 : decode cX10_plays 165 = .ok (.iadd, 1) := by decide +kernel
theorem dX10_plays_166 : decode cX10_plays 166 = .ok (.iastore, 1) := by decide +kernel
theorem dX10_plays_167 : decode cX10_plays 167 = .ok (.aload_n 0, 1) := by decide +kernel
theorem dX10_plays_168 : decode cX10_plays 168 = .ok (.aload_n 0, 1) := by decide +kernel
theorem dX10_plays_169 : decode cX10_plays 169 = .ok (.getfield 7, 3) := by decide +kernel
theorem dX10_plays_172 : decode cX10_plays 172 = .ok (.iconst 4, 1) := by decide +kernel
theorem dX10_plays_173 : decode cX10_plays 173 = .ok (.iaload, 1) := by decide +kernel
theorem dX10_plays_174 : decode cX10_plays 174 = .ok (.invokevirtual 38, 3) := by decide +kernel
theorem dX10_plays_177 : decode cX10_plays 177 = .ok (.istore 5, 2) := by decide +kernel
theorem dX10_plays_179 : decode cX10_plays 179 = .ok (.iload 5, 2) := by decide +kernel
theorem dX10_plays_181 : decode cX10_plays 181 = .ok (.sipush (-1006), 3) := by decide +kernel
theorem dX10_plays_184 : decode cX10_plays 184 = .ok (.if_icmp .eq 28, 3) := by decide +kernel
theorem dX10_plays_187 : decode cX10_plays 187 = .ok (.aload_n 0, 1) := by decide +kernel
theorem dX10_plays_188 : decode cX10_plays 188 = .ok (.getfield 7, 3) := by decide +kernel
theorem dX10_plays_191 : decode cX10_plays 191 = .ok (.bipush 15, 2) := by decide +kernel
theorem dX10_plays_193 : decode cX10_plays 193 = .ok (.iload 5, 2) := by decide +kernel
theorem dX10_plays_195 : decode cX10_plays 195 = .ok (.iadd, 1) := by decide +kernel
theorem dX10_plays_196 : decode cX10_plays 196 = .ok (.dup2, 1) := by decide +kernel
theorem dX10_plays_197 : decode cX10_plays 197 = .ok (.iaload, 1) := by decide +kernel
theorem dX10_plays_198 : decode cX10_plays 198 = .ok (.iconst 1, 1) := by decide +kernel
theorem dX10_plays_199 : decode cX10_plays 199 = .ok (.iadd, 1) := by decide +kernel
theorem dX10_plays_200 : decode cX10_plays 200 = .ok (.iastore, 1) := by decide +kernel
theorem dX10_plays_201 : decode cX10_plays 201 = .ok (.aload_n 0, 1) := by decide +kernel
theorem dX10_plays_202 : decode cX10_plays 202 = .ok (.getfield 7, 3) := by decide +kernel
theorem dX10_plays_205 : decode cX10_plays 205 = .ok (.bipush 18, 2) := by decide +kernel
theorem dX10_plays_207 : decode cX10_plays 207 = .ok (.dup2, 1) := by decide +kernel
theorem dX10_plays_208 : decode cX10_plays 208 = .ok (.iaload, 1) := by decide +kernel
theorem dX10_plays_209 : decode cX10_plays 209 = .ok (.iconst 1, 1) := by decide +kernel
theorem dX10_plays_210 : decode cX10_plays 210 = .ok (.iadd, 1) := by decide +kernel
theorem dX10_plays_211 : decode cX10_plays 211 = .ok (.iastore, 1) := by decide +kernel
theorem dX10_plays_212 : decode cX10_plays 212 = .ok (.iload_n 3, 1) := by decide +kernel
theorem dX10_plays_213 : decode cX10_plays 213 = .ok (.ireturn, 1) := by decide +kernel
theorem dX10_canPlay_0 : decode cX10_canPlay 0 = .ok (.aload_n 0, 1) := by decide +kernel
theorem dX10_canPlay_1 : decode cX10_canPlay 1 = .ok (.invokevirtual 46, 3) := by decide +kernel
theorem dX10_canPlay_4 : decode cX10_canPlay 4 = .ok (.ifCond .ne 37, 3) := by decide +kernel
theorem dX10_canPlay_7 : decode cX10_canPlay 7 = .ok (.iload_n 1, 1) := by decide +kernel
theorem dX10_canPlay_8 : decode cX10_canPlay 8 = .ok (.aload_n 0, 1) := by decide +kernel
theorem dX10_canPlay_9 : decode cX10_canPlay 9 = .ok (.aload_n 0, 1) := by decide +kernel
theorem dX10_canPlay_10 : decode cX10_canPlay 10 = .ok (.getfield 7, 3) := by decide +kernel
theorem dX10_canPlay_13 : decode cX10_canPlay 13 = .ok (.iconst 5, 1) := by decide +kernel
theorem dX10_canPlay_14 : decode cX10_canPlay 14 = .ok (.iaload, 1) := by decide +kernel
theorem dX10_canPlay_15 : decode cX10_canPlay 15 = .ok (.invokevirtual 50, 3) := by decide +kernel
theorem dX10_canPlay_18 : decode cX10_canPlay 18 = .ok (.if_icmp .gt 23, 3) := by decide +kernel
theorem dX10_canPlay_21 : decode cX10_canPlay 21 = .ok (.iload_n 2, 1) := by decide +kernel
theorem dX10_canPlay_22 : decode cX10_canPlay 22 = .ok (.aload_n 0, 1) := by decide +kernel
theorem dX10_canPlay_23 : decode cX10_canPlay 23 = .ok (.iconst 1, 1) := by decide +kernel
theorem dX10_canPlay_24 : decode cX10_canPlay 24 = .ok (.aload_n 0, 1) := by decide +kernel
theorem dX10_canPlay_25 : decode cX10_canPlay 25 = .ok (.getfield 7, 3) := by decide +kernel
theorem dX10_canPlay_28 : decode cX10_canPlay 28 = .ok (.iconst 5, 1) := by decide +kernel
theorem dX10_canPlay_29 : decode cX10_canPlay 29 = .ok (.iaload, 1) := by decide +kernel
theorem dX10_canPlay_30 : decode cX10_canPlay 30 = .ok (.isub, 1) := by decide +kernel
theorem dX10_canPlay_31 : decode cX10_canPlay 31 = .ok (.invokevirtual 50, 3) := by decide +kernel
theorem dX10_canPlay_34 : decode cX10_canPlay 34 = .ok (.if_icmp .gt 7, 3) := by decide +kernel
theorem dX10_canPlay_37 : decode cX10_canPlay 37 = .ok (.iconst 1, 1) := by decide +kernel
theorem dX10_canPlay_38 : decode cX10_canPlay 38 = .ok (.goto 4, 3) := by decide +kernel
theorem dX10_canPlay_41 : decode cX10_canPlay 41 = .ok (.iconst 0, 1) := by decide +kernel
theorem dX10_canPlay_42 : decode cX10_canPlay 42 = .ok (.ireturn, 1) := by decide +kernel
theorem dX10_at_0 : decode cX10_at 0 = .ok (.bipush 27, 2) := by decide +kernel
theorem dX10_at_2 : decode cX10_at 2 = .ok (.iload_n 2, 1) := by decide +kernel
theorem dX10_at_3 : decode cX10_at 3 = .ok (.iconst 2, 1) := by decide +kernel
theorem dX10_at_4 : decode cX10_at 4 = .ok (.iadd, 1) := by decide +kernel
theorem dX10_at_5 : decode cX10_at 5 = .ok (.imul, 1) := by decide +kernel
theorem dX10_at_6 : decode cX10_at 6 = .ok (.iload_n 3, 1) := by decide +kernel
theorem dX10_at_7 : decode cX10_at 7 = .ok (.iadd, 1) := by decide +kernel
theorem dX10_at_8 : decode cX10_at 8 = .ok (.iconst 2, 1) := by decide +kernel
theorem dX10_at_9 : decode cX10_at 9 = .ok (.iadd, 1) := by decide +kernel
theorem dX10_at_10 : decode cX10_at 10 = .ok (.istore 5, 2) := by decide +kernel
theorem dX10_at_12 : decode cX10_at 12 = .ok (.iload_n 0, 1) := by decide +kernel
theorem dX10_at_13 : decode cX10_at 13 = .ok (.bipush 7, 2) := by decide +kernel
theorem dX10_at_15 : decode cX10_at 15 = .ok (.imul, 1) := by decide +kernel
theorem dX10_at_16 : decode cX10_at 16 = .ok (.iload_n 1, 1) := by decide +kernel
theorem dX10_at_17 : decode cX10_at 17 = .ok (.iadd, 1) := by decide +kernel
theorem dX10_at_18 : decode cX10_at 18 = .ok (.iconst 3, 1) := by decide +kernel
theorem dX10_at_19 : decode cX10_at 19 = .ok (.iadd, 1) := by decide +kernel
theorem dX10_at_20 : decode cX10_at 20 = .ok (.bipush 27, 2) := by decide +kernel
theorem dX10_at_22 : decode cX10_at 22 = .ok (.imul, 1) := by decide +kernel
theorem dX10_at_23 : decode cX10_at 23 = .ok (.bipush 27, 2) := by decide +kernel
theorem dX10_at_25 : decode cX10_at 25 = .ok (.imul, 1) := by decide +kernel
theorem dX10_at_26 : decode cX10_at 26 = .ok (.iload 5, 2) := by decide +kernel
theorem dX10_at_28 : decode cX10_at 28 = .ok (.iadd, 1) := by decide +kernel
theorem dX10_at_29 : decode cX10_at 29 = .ok (.iconst 2, 1) := by decide +kernel
theorem dX10_at_30 : decode cX10_at 30 = .ok (.imul, 1) := by decide +kernel
theorem dX10_at_31 : decode cX10_at 31 = .ok (.iload 4, 2) := by decide +kernel
theorem dX10_at_33 : decode cX10_at 33 = .ok (.iadd, 1) := by decide +kernel
theorem dX10_at_34 : decode cX10_at 34 = .ok (.ireturn, 1) := by decide +kernel
theorem dX10_behind_0 : decode cX10_behind 0 = .ok (.aload_n 0, 1) := by decide +kernel
theorem dX10_behind_1 : decode cX10_behind 1 = .ok (.iload 5, 2) := by decide +kernel
theorem dX10_behind_3 : decode cX10_behind 3 = .ok (.iload 6, 2) := by decide +kernel
theorem dX10_behind_5 : decode cX10_behind 5 = .ok (.iload 7, 2) := by decide +kernel
theorem dX10_behind_7 : decode cX10_behind 7 = .ok (.invokevirtual 42, 3) := by decide +kernel
theorem dX10_behind_10 : decode cX10_behind 10 = .ok (.istore 8, 2) := by decide +kernel
theorem dX10_behind_12 : decode cX10_behind 12 = .ok (.iload 8, 2) := by decide +kernel
theorem dX10_behind_14 : decode cX10_behind 14 = .ok (.iload 5, 2) := by decide +kernel
theorem dX10_behind_16 : decode cX10_behind 16 = .ok (.if_icmp .ne 8, 3) := by decide +kernel
theorem dX10_behind_19 : decode cX10_behind 19 = .ok (.iload 6, 2) := by decide +kernel
theorem dX10_behind_21 : decode cX10_behind 21 = .ok (.goto 5, 3) := by decide +kernel
theorem dX10_behind_24 : decode cX10_behind 24 = .ok (.iload 7, 2) := by decide +kernel
theorem dX10_behind_26 : decode cX10_behind 26 = .ok (.istore 9, 2) := by decide +kernel
theorem dX10_behind_28 : decode cX10_behind 28 = .ok (.aload_n 0, 1) := by decide +kernel
theorem dX10_behind_29 : decode cX10_behind 29 = .ok (.getfield 7, 3) := by decide +kernel
theorem dX10_behind_32 : decode cX10_behind 32 = .ok (.iconst 2, 1) := by decide +kernel
theorem dX10_behind_33 : decode cX10_behind 33 = .ok (.iaload, 1) := by decide +kernel
theorem dX10_behind_34 : decode cX10_behind 34 = .ok (.ifCond .ne 8, 3) := by decide +kernel
theorem dX10_behind_37 : decode cX10_behind 37 = .ok (.iload 9, 2) := by decide +kernel
theorem dX10_behind_39 : decode cX10_behind 39 = .ok (.goto 4, 3) := by decide +kernel
theorem dX10_behind_42 : decode cX10_behind 42 = .ok (.iconst 0, 1) := by decide +kernel
theorem dX10_behind_43 : decode cX10_behind 43 = .ok (.istore 10, 2) := by decide +kernel
theorem dX10_behind_45 : decode cX10_behind 45 = .ok (.iload 8, 2) := by decide +kernel
theorem dX10_behind_47 : decode cX10_behind 47 = .ok (.ifCond .ne 10, 3) := by decide +kernel
theorem dX10_behind_50 : decode cX10_behind 50 = .ok (.iload_n 3, 1) := by decide +kernel
theorem dX10_behind_51 : decode cX10_behind 51 = .ok (.iload 9, 2) := by decide +kernel
theorem dX10_behind_53 : decode cX10_behind 53 = .ok (.isub, 1) := by decide +kernel
theorem dX10_behind_54 : decode cX10_behind 54 = .ok (.goto 7, 3) := by decide +kernel
theorem dX10_behind_57 : decode cX10_behind 57 = .ok (.iload_n 3, 1) := by decide +kernel
theorem dX10_behind_58 : decode cX10_behind 58 = .ok (.iload 10, 2) := by decide +kernel
theorem dX10_behind_60 : decode cX10_behind 60 = .ok (.iadd, 1) := by decide +kernel
theorem dX10_behind_61 : decode cX10_behind 61 = .ok (.istore 11, 2) := by decide +kernel
theorem dX10_behind_63 : decode cX10_behind 63 = .ok (.iload 8, 2) := by decide +kernel
theorem dX10_behind_65 : decode cX10_behind 65 = .ok (.ifCond .ne 11, 3) := by decide +kernel
theorem dX10_behind_68 : decode cX10_behind 68 = .ok (.iload 4, 2) := by decide +kernel
theorem dX10_behind_70 : decode cX10_behind 70 = .ok (.iload 10, 2) := by decide +kernel
theorem dX10_behind_72 : decode cX10_behind 72 = .ok (.iadd, 1) := by decide +kernel
theorem dX10_behind_73 : decode cX10_behind 73 = .ok (.goto 8, 3) := by decide +kernel
theorem dX10_behind_76 : decode cX10_behind 76 = .ok (.iload 4, 2) := by decide +kernel
theorem dX10_behind_78 : decode cX10_behind 78 = .ok (.iload 9, 2) := by decide +kernel
theorem dX10_behind_80 : decode cX10_behind 80 = .ok (.isub, 1) := by decide +kernel
theorem dX10_behind_81 : decode cX10_behind 81 = .ok (.istore 12, 2) := by decide +kernel
theorem dX10_behind_83 : decode cX10_behind 83 = .ok (.iload_n 1, 1) := by decide +kernel
theorem dX10_behind_84 : decode cX10_behind 84 = .ok (.iload 8, 2) := by decide +kernel
theorem dX10_behind_86 : decode cX10_behind 86 = .ok (.ifCond .ne 9, 3) := by decide +kernel
theorem dX10_behind_89 : decode cX10_behind 89 = .ok (.iload_n 2, 1) := by decide +kernel
theorem dX10_behind_90 : decode cX10_behind 90 = .ok (.iconst 1, 1) := by decide +kernel
theorem dX10_behind_91 : decode cX10_behind 91 = .ok (.iadd, 1) := by decide +kernel
theorem dX10_behind_92 : decode cX10_behind 92 = .ok (.goto 6, 3) := by decide +kernel
theorem dX10_behind_95 : decode cX10_behind 95 = .ok (.iload_n 2, 1) := by decide +kernel
theorem dX10_behind_96 : decode cX10_behind 96 = .ok (.iconst 1, 1) := by decide +kernel
theorem dX10_behind_97 : decode cX10_behind 97 = .ok (.isub, 1) := by decide +kernel
theorem dX10_behind_98 : decode cX10_behind 98 = .ok (.iload 11, 2) := by decide +kernel
theorem dX10_behind_100 : decode cX10_behind 100 = .ok (.iload 12, 2) := by decide +kernel
theorem dX10_behind_102 : decode cX10_behind 102 = .ok (.iconst 1, 1) := by decide +kernel
theorem dX10_behind_103 : decode cX10_behind 103 = .ok (.iload 5, 2) := by decide +kernel
theorem dX10_behind_105 : decode cX10_behind 105 = .ok (.isub, 1) := by decide +kernel
theorem dX10_behind_106 : decode cX10_behind 106 = .ok (.invokestatic 53, 3) := by decide +kernel
theorem dX10_behind_109 : decode cX10_behind 109 = .ok (.ireturn, 1) := by decide +kernel
theorem dX10_canForce_0 : decode cX10_canForce 0 = .ok (.iload 5, 2) := by decide +kernel
theorem dX10_canForce_2 : decode cX10_canForce 2 = .ok (.ifCond .ne 7, 3) := by decide +kernel
theorem dX10_canForce_5 : decode cX10_canForce 5 = .ok (.iload_n 3, 1) := by decide +kernel
theorem dX10_canForce_6 : decode cX10_canForce 6 = .ok (.goto 5, 3) := by decide +kernel
theorem dX10_canForce_9 : decode cX10_canForce 9 = .ok (.iload 4, 2) := by decide +kernel
theorem dX10_canForce_11 : decode cX10_canForce 11 = .ok (.aload_n 0, 1) := by decide +kernel
theorem dX10_canForce_12 : decode cX10_canForce 12 = .ok (.getfield 7, 3) := by decide +kernel
theorem dX10_canForce_15 : decode cX10_canForce 15 = .ok (.iconst 1, 1) := by decide +kernel
theorem dX10_canForce_16 : decode cX10_canForce 16 = .ok (.iaload, 1) := by decide +kernel
theorem dX10_canForce_17 : decode cX10_canForce 17 = .ok (.iadd, 1) := by decide +kernel
theorem dX10_canForce_18 : decode cX10_canForce 18 = .ok (.istore 7, 2) := by decide +kernel
theorem dX10_canForce_20 : decode cX10_canForce 20 = .ok (.iload 5, 2) := by decide +kernel
theorem dX10_canForce_22 : decode cX10_canForce 22 = .ok (.ifCond .ne 8, 3) := by decide +kernel
theorem dX10_canForce_25 : decode cX10_canForce 25 = .ok (.iload 4, 2) := by decide +kernel
theorem dX10_canForce_27 : decode cX10_canForce 27 = .ok (.goto 4, 3) := by decide +kernel
theorem dX10_canForce_30 : decode cX10_canForce 30 = .ok (.iload_n 3, 1) := by decide +kernel
theorem dX10_canForce_31 : decode cX10_canForce 31 = .ok (.aload_n 0, 1) := by decide +kernel
theorem dX10_canForce_32 : decode cX10_canForce 32 = .ok (.getfield 7, 3) := by decide +kernel
theorem dX10_canForce_35 : decode cX10_canForce 35 = .ok (.iconst 1, 1) := by decide +kernel
theorem dX10_canForce_36 : decode cX10_canForce 36 = .ok (.iaload, 1) := by decide +kernel
theorem dX10_canForce_37 : decode cX10_canForce 37 = .ok (.iadd, 1) := by decide +kernel
theorem dX10_canForce_38 : decode cX10_canForce 38 = .ok (.istore 8, 2) := by decide +kernel
theorem dX10_canForce_40 : decode cX10_canForce 40 = .ok (.iconst 0, 1) := by decide +kernel
theorem dX10_canForce_41 : decode cX10_canForce 41 = .ok (.istore 9, 2) := by decide +kernel
theorem dX10_canForce_43 : decode cX10_canForce 43 = .ok (.iconst 1, 1) := by decide +kernel
theorem dX10_canForce_44 : decode cX10_canForce 44 = .ok (.istore 10, 2) := by decide +kernel
theorem dX10_canForce_46 : decode cX10_canForce 46 = .ok (.iconst 0, 1) := by decide +kernel
theorem dX10_canForce_47 : decode cX10_canForce 47 = .ok (.istore 11, 2) := by decide +kernel
theorem dX10_canForce_49 : decode cX10_canForce 49 = .ok (.iload 11, 2) := by decide +kernel
theorem dX10_canForce_51 : decode cX10_canForce 51 = .ok (.iload 7, 2) := by decide +kernel
theorem dX10_canForce_53 : decode cX10_canForce 53 = .ok (.if_icmp .gt 131, 3) := by decide +kernel
theorem dX10_canForce_56 : decode cX10_canForce 56 = .ok (.iconst 0, 1) := by decide +kernel
theorem dX10_canForce_57 : decode cX10_canForce 57 = .ok (.istore 12, 2) := by decide +kernel
theorem dX10_canForce_59 : decode cX10_canForce 59 = .ok (.iconst 1, 1) := by decide +kernel
theorem dX10_canForce_60 : decode cX10_canForce 60 = .ok (.istore 13, 2) := by decide +kernel
theorem dX10_canForce_62 : decode cX10_canForce 62 = .ok (.iconst 0, 1) := by decide +kernel
theorem dX10_canForce_63 : decode cX10_canForce 63 = .ok (.istore 14, 2) := by decide +kernel
theorem dX10_canForce_65 : decode cX10_canForce 65 = .ok (.iload 14, 2) := by decide +kernel
theorem dX10_canForce_67 : decode cX10_canForce 67 = .ok (.iload 8, 2) := by decide +kernel
theorem dX10_canForce_69 : decode cX10_canForce 69 = .ok (.if_icmp .gt 75, 3) := by decide +kernel
theorem dX10_canForce_72 : decode cX10_canForce 72 = .ok (.aload_n 0, 1) := by decide +kernel
theorem dX10_canForce_73 : decode cX10_canForce 73 = .ok (.getfield 22, 3) := by decide +kernel
theorem dX10_canForce_76 : decode cX10_canForce 76 = .ok (.aload_n 0, 1) := by decide +kernel
theorem dX10_canForce_77 : decode cX10_canForce 77 = .ok (.iload_n 1, 1) := by decide +kernel
theorem dX10_canForce_78 : decode cX10_canForce 78 = .ok (.iload_n 2, 1) := by decide +kernel
theorem dX10_canForce_79 : decode cX10_canForce 79 = .ok (.iload_n 3, 1) := by decide +kernel
theorem dX10_canForce_80 : decode cX10_canForce 80 = .ok (.iload 4, 2) := by decide +kernel
theorem dX10_canForce_82 : decode cX10_canForce 82 = .ok (.iload 5, 2) := by decide +kernel
theorem dX10_canForce_84 : decode cX10_canForce 84 = .ok (.iload 11, 2) := by decide +kernel
theorem dX10_canForce_86 : decode cX10_canForce 86 = .ok (.iload 14, 2) := by decide +kernel
theorem dX10_canForce_88 : decode cX10_canForce 88 = .ok (.invokevirtual 57, 3) := by decide +kernel
theorem dX10_canForce_91 : decode cX10_canForce 91 = .ok (.iaload, 1) := by decide +kernel
theorem dX10_canForce_92 : decode cX10_canForce 92 = .ok (.iload 6, 2) := by decide +kernel
theorem dX10_canForce_94 : decode cX10_canForce 94 = .ok (.if_icmp .ge 7, 3) := by decide +kernel
theorem dX10_canForce_97 : decode cX10_canForce 97 = .ok (.iconst 1, 1) := by decide +kernel
theorem dX10_canForce_98 : decode cX10_canForce 98 = .ok (.goto 4, 3) := by decide +kernel
theorem dX10_canForce_101 : decode cX10_canForce 101 = .ok (.iconst 0, 1) := by decide +kernel
theorem dX10_canForce_102 : decode cX10_canForce 102 = .ok (.istore 15, 2) := by decide +kernel
theorem dX10_canForce_104 : decode cX10_canForce 104 = .ok (.iload 12, 2) := by decide +kernel
theorem dX10_canForce_106 : decode cX10_canForce 106 = .ok (.ifCond .ne 8, 3) := by decide +kernel
theorem dX10_canForce_109 : decode cX10_canForce 109 = .ok (.iload 15, 2) := by decide +kernel
theorem dX10_canForce_111 : decode cX10_canForce 111 = .ok (.ifCond .eq 7, 3) := by decide +kernel
theorem dX10_canForce_114 : decode cX10_canForce 114 = .ok (.iconst 1, 1) := by decide +kernel
theorem dX10_canForce_115 : decode cX10_canForce 115 = .ok (.goto 4, 3) := by decide +kernel
theorem dX10_canForce_118 : decode cX10_canForce 118 = .ok (.iconst 0, 1) := by decide +kernel
theorem dX10_canForce_119 : decode cX10_canForce 119 = .ok (.istore 12, 2) := by decide +kernel
theorem dX10_canForce_121 : decode cX10_canForce 121 = .ok (.iload 13, 2) := by decide +kernel
theorem dX10_canForce_123 : decode cX10_canForce 123 = .ok (.ifCond .eq 12, 3) := by decide +kernel
theorem dX10_canForce_126 : decode cX10_canForce 126 = .ok (.iload 15, 2) := by decide +kernel
theorem dX10_canForce_128 : decode cX10_canForce 128 = .ok (.ifCond .eq 7, 3) := by decide +kernel
theorem dX10_canForce_131 : decode cX10_canForce 131 = .ok (.iconst 1, 1) := by decide +kernel
theorem dX10_canForce_132 : decode cX10_canForce 132 = .ok (.goto 4, 3) := by decide +kernel
theorem dX10_canForce_135 : decode cX10_canForce 135 = .ok (.iconst 0, 1) := by decide +kernel
theorem dX10_canForce_136 : decode cX10_canForce 136 = .ok (.istore 13, 2) := by decide +kernel
theorem dX10_canForce_138 : decode cX10_canForce 138 = .ok (.iinc 14 1, 3) := by decide +kernel
theorem dX10_canForce_141 : decode cX10_canForce 141 = .ok (.goto (-76), 3) := by decide +kernel
theorem dX10_canForce_144 : decode cX10_canForce 144 = .ok (.iload 9, 2) := by decide +kernel
theorem dX10_canForce_146 : decode cX10_canForce 146 = .ok (.ifCond .ne 8, 3) := by decide +kernel
end
section
theorem dX10_canForce_149 : decode cX10_canForce 149 = .ok (.iload 13, 2) := by decide +kernel
theorem dX10_canForce_151 : decode cX10_canForce 151 = .ok (.ifCond .eq 7, 3) := by decide +kernel
theorem dX10_canForce_154 : decode cX10_canForce 154 = .ok (.iconst 1, 1) := by decide +kernel
theorem dX10_canForce_155 : decode cX10_canForce 155 = .ok (.goto 4, 3) := by decide +kernel
theorem dX10_canForce_158 : decode cX10_canForce 158 = .ok (.iconst 0, 1) := by decide +kernel
theorem dX10_canForce_159 : decode cX10_canForce 159 = .ok (.istore 9, 2) := by decide +kernel
theorem dX10_canForce_161 : decode cX10_canForce 161 = .ok (.iload 10, 2) := by decide +kernel
theorem dX10_canForce_163 : decode cX10_canForce 163 = .ok (.ifCond .eq 12, 3) := by decide +kernel
theorem dX10_canForce_166 : decode cX10_canForce 166 = .ok (.iload 12, 2) := by decide +kernel
theorem dX10_canForce_168 : decode cX10_canForce 168 = .ok (.ifCond .eq 7, 3) := by decide +kernel
theorem dX10_canForce_171 : decode cX10_canForce 171 = .ok (.iconst 1, 1) := by decide +kernel
theorem dX10_canForce_172 : decode cX10_canForce 172 = .ok (.goto 4, 3) := by decide +kernel
theorem dX10_canForce_175 : decode cX10_canForce 175 = .ok (.iconst 0, 1) := by decide +kernel
theorem dX10_canForce_176 : decode cX10_canForce 176 = .ok (.istore 10, 2) := by decide +kernel
theorem dX10_canForce_178 : decode cX10_canForce 178 = .ok (.iinc 11 1, 3) := by decide +kernel
theorem dX10_canForce_181 : decode cX10_canForce 181 = .ok (.goto (-132), 3) := by decide +kernel
theorem dX10_canForce_184 : decode cX10_canForce 184 = .ok (.iload_n 1, 1) := by decide +kernel
theorem dX10_canForce_185 : decode cX10_canForce 185 = .ok (.iload 5, 2) := by decide +kernel
theorem dX10_canForce_187 : decode cX10_canForce 187 = .ok (.if_icmp .ne 8, 3) := by decide +kernel
theorem dX10_canForce_190 : decode cX10_canForce 190 = .ok (.iload 9, 2) := by decide +kernel
theorem dX10_canForce_192 : decode cX10_canForce 192 = .ok (.goto 5, 3) := by decide +kernel
theorem dX10_canForce_195 : decode cX10_canForce 195 = .ok (.iload 10, 2) := by decide +kernel
theorem dX10_canForce_197 : decode cX10_canForce 197 = .ok (.ireturn, 1) := by decide +kernel
theorem dX10_lowest_0 : decode cX10_lowest 0 = .ok (.aload_n 0, 1) := by decide +kernel
theorem dX10_lowest_1 : decode cX10_lowest 1 = .ok (.getfield 7, 3) := by decide +kernel
theorem dX10_lowest_4 : decode cX10_lowest 4 = .ok (.iconst 1, 1) := by decide +kernel
theorem dX10_lowest_5 : decode cX10_lowest 5 = .ok (.iaload, 1) := by decide +kernel
theorem dX10_lowest_6 : decode cX10_lowest 6 = .ok (.ineg, 1) := by decide +kernel
theorem dX10_lowest_7 : decode cX10_lowest 7 = .ok (.ireturn, 1) := by decide +kernel
theorem dX10_worksOut_0 : decode cX10_worksOut 0 = .ok (.iconst 0, 1) := by decide +kernel
theorem dX10_worksOut_1 : decode cX10_worksOut 1 = .ok (.istore 4, 2) := by decide +kernel
theorem dX10_worksOut_3 : decode cX10_worksOut 3 = .ok (.iload 4, 2) := by decide +kernel
theorem dX10_worksOut_5 : decode cX10_worksOut 5 = .ok (.iconst 4, 1) := by decide +kernel
theorem dX10_worksOut_6 : decode cX10_worksOut 6 = .ok (.iconst 2, 1) := by decide +kernel
theorem dX10_worksOut_7 : decode cX10_worksOut 7 = .ok (.aload_n 0, 1) := by decide +kernel
theorem dX10_worksOut_8 : decode cX10_worksOut 8 = .ok (.getfield 7, 3) := by decide +kernel
theorem dX10_worksOut_11 : decode cX10_worksOut 11 = .ok (.iconst 0, 1) := by decide +kernel
theorem dX10_worksOut_12 : decode cX10_worksOut 12 = .ok (.iaload, 1) := by decide +kernel
theorem dX10_worksOut_13 : decode cX10_worksOut 13 = .ok (.imul, 1) := by decide +kernel
theorem dX10_worksOut_14 : decode cX10_worksOut 14 = .ok (.iconst 1, 1) := by decide +kernel
theorem dX10_worksOut_15 : decode cX10_worksOut 15 = .ok (.isub, 1) := by decide +kernel
theorem dX10_worksOut_16 : decode cX10_worksOut 16 = .ok (.imul, 1) := by decide +kernel
theorem dX10_worksOut_17 : decode cX10_worksOut 17 = .ok (.if_icmp .ge 86, 3) := by decide +kernel
theorem dX10_worksOut_20 : decode cX10_worksOut 20 = .ok (.iload 4, 2) := by decide +kernel
theorem dX10_worksOut_22 : decode cX10_worksOut 22 = .ok (.iconst 4, 1) := by decide +kernel
theorem dX10_worksOut_23 : decode cX10_worksOut 23 = .ok (.idiv, 1) := by decide +kernel
theorem dX10_worksOut_24 : decode cX10_worksOut 24 = .ok (.aload_n 0, 1) := by decide +kernel
theorem dX10_worksOut_25 : decode cX10_worksOut 25 = .ok (.getfield 7, 3) := by decide +kernel
theorem dX10_worksOut_28 : decode cX10_worksOut 28 = .ok (.iconst 0, 1) := by decide +kernel
theorem dX10_worksOut_29 : decode cX10_worksOut 29 = .ok (.iaload, 1) := by decide +kernel
theorem dX10_worksOut_30 : decode cX10_worksOut 30 = .ok (.isub, 1) := by decide +kernel
theorem dX10_worksOut_31 : decode cX10_worksOut 31 = .ok (.iconst 1, 1) := by decide +kernel
theorem dX10_worksOut_32 : decode cX10_worksOut 32 = .ok (.iadd, 1) := by decide +kernel
theorem dX10_worksOut_33 : decode cX10_worksOut 33 = .ok (.istore 5, 2) := by decide +kernel
theorem dX10_worksOut_35 : decode cX10_worksOut 35 = .ok (.iload 4, 2) := by decide +kernel
theorem dX10_worksOut_37 : decode cX10_worksOut 37 = .ok (.iconst 2, 1) := by decide +kernel
theorem dX10_worksOut_38 : decode cX10_worksOut 38 = .ok (.idiv, 1) := by decide +kernel
theorem dX10_worksOut_39 : decode cX10_worksOut 39 = .ok (.iconst 2, 1) := by decide +kernel
theorem dX10_worksOut_40 : decode cX10_worksOut 40 = .ok (.irem, 1) := by decide +kernel
theorem dX10_worksOut_41 : decode cX10_worksOut 41 = .ok (.istore 6, 2) := by decide +kernel
theorem dX10_worksOut_43 : decode cX10_worksOut 43 = .ok (.iload 4, 2) := by decide +kernel
theorem dX10_worksOut_45 : decode cX10_worksOut 45 = .ok (.iconst 2, 1) := by decide +kernel
theorem dX10_worksOut_46 : decode cX10_worksOut 46 = .ok (.irem, 1) := by decide +kernel
theorem dX10_worksOut_47 : decode cX10_worksOut 47 = .ok (.istore 7, 2) := by decide +kernel
theorem dX10_worksOut_49 : decode cX10_worksOut 49 = .ok (.iload 6, 2) := by decide +kernel
theorem dX10_worksOut_51 : decode cX10_worksOut 51 = .ok (.iload 5, 2) := by decide +kernel
theorem dX10_worksOut_53 : decode cX10_worksOut 53 = .ok (.iload_n 1, 1) := by decide +kernel
theorem dX10_worksOut_54 : decode cX10_worksOut 54 = .ok (.iload_n 2, 1) := by decide +kernel
theorem dX10_worksOut_55 : decode cX10_worksOut 55 = .ok (.iload 7, 2) := by decide +kernel
theorem dX10_worksOut_57 : decode cX10_worksOut 57 = .ok (.invokestatic 53, 3) := by decide +kernel
theorem dX10_worksOut_60 : decode cX10_worksOut 60 = .ok (.istore 8, 2) := by decide +kernel
theorem dX10_worksOut_62 : decode cX10_worksOut 62 = .ok (.aload_n 0, 1) := by decide +kernel
theorem dX10_worksOut_63 : decode cX10_worksOut 63 = .ok (.getfield 22, 3) := by decide +kernel
theorem dX10_worksOut_66 : decode cX10_worksOut 66 = .ok (.iload 8, 2) := by decide +kernel
theorem dX10_worksOut_68 : decode cX10_worksOut 68 = .ok (.iaload, 1) := by decide +kernel
theorem dX10_worksOut_69 : decode cX10_worksOut 69 = .ok (.iload_n 3, 1) := by decide +kernel
theorem dX10_worksOut_70 : decode cX10_worksOut 70 = .ok (.if_icmp .le 27, 3) := by decide +kernel
theorem dX10_worksOut_73 : decode cX10_worksOut 73 = .ok (.aload_n 0, 1) := by decide +kernel
theorem dX10_worksOut_74 : decode cX10_worksOut 74 = .ok (.iload 6, 2) := by decide +kernel
theorem dX10_worksOut_76 : decode cX10_worksOut 76 = .ok (.iload 5, 2) := by decide +kernel
theorem dX10_worksOut_78 : decode cX10_worksOut 78 = .ok (.iload_n 1, 1) := by decide +kernel
theorem dX10_worksOut_79 : decode cX10_worksOut 79 = .ok (.iload_n 2, 1) := by decide +kernel
theorem dX10_worksOut_80 : decode cX10_worksOut 80 = .ok (.iload 7, 2) := by decide +kernel
theorem dX10_worksOut_82 : decode cX10_worksOut 82 = .ok (.iload_n 3, 1) := by decide +kernel
theorem dX10_worksOut_83 : decode cX10_worksOut 83 = .ok (.invokevirtual 61, 3) := by decide +kernel
theorem dX10_worksOut_86 : decode cX10_worksOut 86 = .ok (.ifCond .eq 11, 3) := by decide +kernel
theorem dX10_worksOut_89 : decode cX10_worksOut 89 = .ok (.aload_n 0, 1) := by decide +kernel
theorem dX10_worksOut_90 : decode cX10_worksOut 90 = .ok (.getfield 22, 3) := by decide +kernel
theorem dX10_worksOut_93 : decode cX10_worksOut 93 = .ok (.iload 8, 2) := by decide +kernel
theorem dX10_worksOut_95 : decode cX10_worksOut 95 = .ok (.iload_n 3, 1) := by decide +kernel
theorem dX10_worksOut_96 : decode cX10_worksOut 96 = .ok (.iastore, 1) := by decide +kernel
theorem dX10_worksOut_97 : decode cX10_worksOut 97 = .ok (.iinc 4 1, 3) := by decide +kernel
theorem dX10_worksOut_100 : decode cX10_worksOut 100 = .ok (.goto (-97), 3) := by decide +kernel
theorem dX10_worksOut_103 : decode cX10_worksOut 103 = .ok (.return_, 1) := by decide +kernel
theorem dX10_worksOutAll_0 : decode cX10_worksOutAll 0 = .ok (.aload_n 0, 1) := by decide +kernel
theorem dX10_worksOutAll_1 : decode cX10_worksOutAll 1 = .ok (.invokevirtual 65, 3) := by decide +kernel
theorem dX10_worksOutAll_4 : decode cX10_worksOutAll 4 = .ok (.istore_n 3, 1) := by decide +kernel
theorem dX10_worksOutAll_5 : decode cX10_worksOutAll 5 = .ok (.iload_n 3, 1) := by decide +kernel
theorem dX10_worksOutAll_6 : decode cX10_worksOutAll 6 = .ok (.aload_n 0, 1) := by decide +kernel
theorem dX10_worksOutAll_7 : decode cX10_worksOutAll 7 = .ok (.getfield 7, 3) := by decide +kernel
theorem dX10_worksOutAll_10 : decode cX10_worksOutAll 10 = .ok (.iconst 2, 1) := by decide +kernel
theorem dX10_worksOutAll_11 : decode cX10_worksOutAll 11 = .ok (.iaload, 1) := by decide +kernel
theorem dX10_worksOutAll_12 : decode cX10_worksOutAll 12 = .ok (.ifCond .ne 14, 3) := by decide +kernel
theorem dX10_worksOutAll_15 : decode cX10_worksOutAll 15 = .ok (.iload_n 1, 1) := by decide +kernel
theorem dX10_worksOutAll_16 : decode cX10_worksOutAll 16 = .ok (.aload_n 0, 1) := by decide +kernel
theorem dX10_worksOutAll_17 : decode cX10_worksOutAll 17 = .ok (.getfield 7, 3) := by decide +kernel
theorem dX10_worksOutAll_20 : decode cX10_worksOutAll 20 = .ok (.iconst 1, 1) := by decide +kernel
theorem dX10_worksOutAll_21 : decode cX10_worksOutAll 21 = .ok (.iaload, 1) := by decide +kernel
theorem dX10_worksOutAll_22 : decode cX10_worksOutAll 22 = .ok (.iadd, 1) := by decide +kernel
theorem dX10_worksOutAll_23 : decode cX10_worksOutAll 23 = .ok (.goto 5, 3) := by decide +kernel
theorem dX10_worksOutAll_26 : decode cX10_worksOutAll 26 = .ok (.bipush 6, 2) := by decide +kernel
theorem dX10_worksOutAll_28 : decode cX10_worksOutAll 28 = .ok (.if_icmp .gt 57, 3) := by decide +kernel
theorem dX10_worksOutAll_31 : decode cX10_worksOutAll 31 = .ok (.aload_n 0, 1) := by decide +kernel
theorem dX10_worksOutAll_32 : decode cX10_worksOutAll 32 = .ok (.getfield 7, 3) := by decide +kernel
theorem dX10_worksOutAll_35 : decode cX10_worksOutAll 35 = .ok (.iconst 2, 1) := by decide +kernel
theorem dX10_worksOutAll_36 : decode cX10_worksOutAll 36 = .ok (.iaload, 1) := by decide +kernel
theorem dX10_worksOutAll_37 : decode cX10_worksOutAll 37 = .ok (.ifCond .ne 15, 3) := by decide +kernel
theorem dX10_worksOutAll_40 : decode cX10_worksOutAll 40 = .ok (.aload_n 0, 1) := by decide +kernel
theorem dX10_worksOutAll_41 : decode cX10_worksOutAll 41 = .ok (.iload_n 3, 1) := by decide +kernel
theorem dX10_worksOutAll_42 : decode cX10_worksOutAll 42 = .ok (.iload_n 1, 1) := by decide +kernel
theorem dX10_worksOutAll_43 : decode cX10_worksOutAll 43 = .ok (.iload_n 3, 1) := by decide +kernel
theorem dX10_worksOutAll_44 : decode cX10_worksOutAll 44 = .ok (.isub, 1) := by decide +kernel
theorem dX10_worksOutAll_45 : decode cX10_worksOutAll 45 = .ok (.iload_n 2, 1) := by decide +kernel
theorem dX10_worksOutAll_46 : decode cX10_worksOutAll 46 = .ok (.invokevirtual 69, 3) := by decide +kernel
theorem dX10_worksOutAll_49 : decode cX10_worksOutAll 49 = .ok (.goto 30, 3) := by decide +kernel
theorem dX10_worksOutAll_52 : decode cX10_worksOutAll 52 = .ok (.aload_n 0, 1) := by decide +kernel
theorem dX10_worksOutAll_53 : decode cX10_worksOutAll 53 = .ok (.invokevirtual 65, 3) := by decide +kernel
theorem dX10_worksOutAll_56 : decode cX10_worksOutAll 56 = .ok (.istore 4, 2) := by decide +kernel
theorem dX10_worksOutAll_58 : decode cX10_worksOutAll 58 = .ok (.iload 4, 2) := by decide +kernel
theorem dX10_worksOutAll_60 : decode cX10_worksOutAll 60 = .ok (.bipush 6, 2) := by decide +kernel
theorem dX10_worksOutAll_62 : decode cX10_worksOutAll 62 = .ok (.if_icmp .gt 17, 3) := by decide +kernel
theorem dX10_worksOutAll_65 : decode cX10_worksOutAll 65 = .ok (.aload_n 0, 1) := by decide +kernel
theorem dX10_worksOutAll_66 : decode cX10_worksOutAll 66 = .ok (.iload_n 3, 1) := by decide +kernel
theorem dX10_worksOutAll_67 : decode cX10_worksOutAll 67 = .ok (.iload 4, 2) := by decide +kernel
theorem dX10_worksOutAll_69 : decode cX10_worksOutAll 69 = .ok (.iload_n 2, 1) := by decide +kernel
theorem dX10_worksOutAll_70 : decode cX10_worksOutAll 70 = .ok (.invokevirtual 69, 3) := by decide +kernel
theorem dX10_worksOutAll_73 : decode cX10_worksOutAll 73 = .ok (.iinc 4 1, 3) := by decide +kernel
theorem dX10_worksOutAll_76 : decode cX10_worksOutAll 76 = .ok (.goto (-18), 3) := by decide +kernel
theorem dX10_worksOutAll_79 : decode cX10_worksOutAll 79 = .ok (.iinc 3 1, 3) := by decide +kernel
theorem dX10_worksOutAll_82 : decode cX10_worksOutAll 82 = .ok (.goto (-77), 3) := by decide +kernel
theorem dX10_worksOutAll_85 : decode cX10_worksOutAll 85 = .ok (.return_, 1) := by decide +kernel
theorem dX10_knows_0 : decode cX10_knows 0 = .ok (.sipush 1000, 3) := by decide +kernel
theorem dX10_knows_3 : decode cX10_knows 3 = .ok (.aload_n 0, 1) := by decide +kernel
theorem dX10_knows_4 : decode cX10_knows 4 = .ok (.getfield 7, 3) := by decide +kernel
theorem dX10_knows_7 : decode cX10_knows 7 = .ok (.iconst 0, 1) := by decide +kernel
theorem dX10_knows_8 : decode cX10_knows 8 = .ok (.iaload, 1) := by decide +kernel
theorem dX10_knows_9 : decode cX10_knows 9 = .ok (.imul, 1) := by decide +kernel
theorem dX10_knows_10 : decode cX10_knows 10 = .ok (.bipush 100, 2) := by decide +kernel
theorem dX10_knows_12 : decode cX10_knows 12 = .ok (.aload_n 0, 1) := by decide +kernel
theorem dX10_knows_13 : decode cX10_knows 13 = .ok (.getfield 7, 3) := by decide +kernel
theorem dX10_knows_16 : decode cX10_knows 16 = .ok (.iconst 1, 1) := by decide +kernel
theorem dX10_knows_17 : decode cX10_knows 17 = .ok (.iaload, 1) := by decide +kernel
theorem dX10_knows_18 : decode cX10_knows 18 = .ok (.imul, 1) := by decide +kernel
theorem dX10_knows_19 : decode cX10_knows 19 = .ok (.iadd, 1) := by decide +kernel
theorem dX10_knows_20 : decode cX10_knows 20 = .ok (.bipush 10, 2) := by decide +kernel
theorem dX10_knows_22 : decode cX10_knows 22 = .ok (.aload_n 0, 1) := by decide +kernel
theorem dX10_knows_23 : decode cX10_knows 23 = .ok (.getfield 7, 3) := by decide +kernel
theorem dX10_knows_26 : decode cX10_knows 26 = .ok (.iconst 2, 1) := by decide +kernel
theorem dX10_knows_27 : decode cX10_knows 27 = .ok (.iaload, 1) := by decide +kernel
theorem dX10_knows_28 : decode cX10_knows 28 = .ok (.imul, 1) := by decide +kernel
theorem dX10_knows_29 : decode cX10_knows 29 = .ok (.iadd, 1) := by decide +kernel
theorem dX10_knows_30 : decode cX10_knows 30 = .ok (.aload_n 0, 1) := by decide +kernel
theorem dX10_knows_31 : decode cX10_knows 31 = .ok (.getfield 7, 3) := by decide +kernel
theorem dX10_knows_34 : decode cX10_knows 34 = .ok (.iconst 3, 1) := by decide +kernel
theorem dX10_knows_35 : decode cX10_knows 35 = .ok (.iaload, 1) := by decide +kernel
theorem dX10_knows_36 : decode cX10_knows 36 = .ok (.iadd, 1) := by decide +kernel
theorem dX10_knows_37 : decode cX10_knows 37 = .ok (.istore_n 2, 1) := by decide +kernel
theorem dX10_knows_38 : decode cX10_knows 38 = .ok (.aload_n 0, 1) := by decide +kernel
theorem dX10_knows_39 : decode cX10_knows 39 = .ok (.getfield 73, 3) := by decide +kernel
theorem dX10_knows_42 : decode cX10_knows 42 = .ok (.iconst 1, 1) := by decide +kernel
theorem dX10_knows_43 : decode cX10_knows 43 = .ok (.if_icmp .ne 30, 3) := by decide +kernel
theorem dX10_knows_46 : decode cX10_knows 46 = .ok (.aload_n 0, 1) := by decide +kernel
theorem dX10_knows_47 : decode cX10_knows 47 = .ok (.getfield 76, 3) := by decide +kernel
theorem dX10_knows_50 : decode cX10_knows 50 = .ok (.iload_n 2, 1) := by decide +kernel
theorem dX10_knows_51 : decode cX10_knows 51 = .ok (.if_icmp .ne 22, 3) := by decide +kernel
theorem dX10_knows_54 : decode cX10_knows 54 = .ok (.aload_n 0, 1) := by decide +kernel
theorem dX10_knows_55 : decode cX10_knows 55 = .ok (.getfield 7, 3) := by decide +kernel
theorem dX10_knows_58 : decode cX10_knows 58 = .ok (.iconst 2, 1) := by decide +kernel
theorem dX10_knows_59 : decode cX10_knows 59 = .ok (.iaload, 1) := by decide +kernel
theorem dX10_knows_60 : decode cX10_knows 60 = .ok (.iconst 1, 1) := by decide +kernel
theorem dX10_knows_61 : decode cX10_knows 61 = .ok (.if_icmp .eq 11, 3) := by decide +kernel
theorem dX10_knows_64 : decode cX10_knows 64 = .ok (.aload_n 0, 1) := by decide +kernel
theorem dX10_knows_65 : decode cX10_knows 65 = .ok (.getfield 79, 3) := by decide +kernel
theorem dX10_knows_68 : decode cX10_knows 68 = .ok (.iload_n 1, 1) := by decide +kernel
theorem dX10_knows_69 : decode cX10_knows 69 = .ok (.if_icmp .ne 4, 3) := by decide +kernel
theorem dX10_knows_72 : decode cX10_knows 72 = .ok (.return_, 1) := by decide +kernel
theorem dX10_knows_73 : decode cX10_knows 73 = .ok (.iconst 0, 1) := by decide +kernel
theorem dX10_knows_74 : decode cX10_knows 74 = .ok (.istore_n 3, 1) := by decide +kernel
theorem dX10_knows_75 : decode cX10_knows 75 = .ok (.iload_n 3, 1) := by decide +kernel
theorem dX10_knows_76 : decode cX10_knows 76 = .ok (.sipush 20412, 3) := by decide +kernel
theorem dX10_knows_79 : decode cX10_knows 79 = .ok (.if_icmp .ge 51, 3) := by decide +kernel
theorem dX10_knows_82 : decode cX10_knows 82 = .ok (.iload_n 3, 1) := by decide +kernel
theorem dX10_knows_83 : decode cX10_knows 83 = .ok (.sipush 10206, 3) := by decide +kernel
theorem dX10_knows_86 : decode cX10_knows 86 = .ok (.idiv, 1) := by decide +kernel
theorem dX10_knows_87 : decode cX10_knows 87 = .ok (.istore 4, 2) := by decide +kernel
theorem dX10_knows_89 : decode cX10_knows 89 = .ok (.iload_n 3, 1) := by decide +kernel
theorem dX10_knows_90 : decode cX10_knows 90 = .ok (.sipush 1458, 3) := by decide +kernel
theorem dX10_knows_93 : decode cX10_knows 93 = .ok (.idiv, 1) := by decide +kernel
theorem dX10_knows_94 : decode cX10_knows 94 = .ok (.bipush 7, 2) := by decide +kernel
theorem dX10_knows_96 : decode cX10_knows 96 = .ok (.irem, 1) := by decide +kernel
theorem dX10_knows_97 : decode cX10_knows 97 = .ok (.iconst 3, 1) := by decide +kernel
theorem dX10_knows_98 : decode cX10_knows 98 = .ok (.isub, 1) := by decide +kernel
theorem dX10_knows_99 : decode cX10_knows 99 = .ok (.istore 5, 2) := by decide +kernel
theorem dX10_knows_101 : decode cX10_knows 101 = .ok (.aload_n 0, 1) := by decide +kernel
theorem dX10_knows_102 : decode cX10_knows 102 = .ok (.getfield 22, 3) := by decide +kernel
theorem dX10_knows_105 : decode cX10_knows 105 = .ok (.iload_n 3, 1) := by decide +kernel
theorem dX10_knows_106 : decode cX10_knows 106 = .ok (.aload_n 0, 1) := by decide +kernel
theorem dX10_knows_107 : decode cX10_knows 107 = .ok (.iload 5, 2) := by decide +kernel
theorem dX10_knows_109 : decode cX10_knows 109 = .ok (.invokevirtual 38, 3) := by decide +kernel
theorem dX10_knows_112 : decode cX10_knows 112 = .ok (.iload 4, 2) := by decide +kernel
theorem dX10_knows_114 : decode cX10_knows 114 = .ok (.if_icmp .ne 7, 3) := by decide +kernel
theorem dX10_knows_117 : decode cX10_knows 117 = .ok (.iconst 0, 1) := by decide +kernel
theorem dX10_knows_118 : decode cX10_knows 118 = .ok (.goto 5, 3) := by decide +kernel
theorem dX10_knows_121 : decode cX10_knows 121 = .ok (.bipush 99, 2) := by decide +kernel
theorem dX10_knows_123 : decode cX10_knows 123 = .ok (.iastore, 1) := by decide +kernel
theorem dX10_knows_124 : decode cX10_knows 124 = .ok (.iinc 3 1, 3) := by decide +kernel
theorem dX10_knows_127 : decode cX10_knows 127 = .ok (.goto (-52), 3) := by decide +kernel
theorem dX10_knows_130 : decode cX10_knows 130 = .ok (.iconst 1, 1) := by decide +kernel
theorem dX10_knows_131 : decode cX10_knows 131 = .ok (.istore_n 3, 1) := by decide +kernel
theorem dX10_knows_132 : decode cX10_knows 132 = .ok (.iload_n 3, 1) := by decide +kernel
theorem dX10_knows_133 : decode cX10_knows 133 = .ok (.bipush 8, 2) := by decide +kernel
theorem dX10_knows_135 : decode cX10_knows 135 = .ok (.if_icmp .gt 15, 3) := by decide +kernel
theorem dX10_knows_138 : decode cX10_knows 138 = .ok (.aload_n 0, 1) := by decide +kernel
theorem dX10_knows_139 : decode cX10_knows 139 = .ok (.iload_n 1, 1) := by decide +kernel
theorem dX10_knows_140 : decode cX10_knows 140 = .ok (.iload_n 3, 1) := by decide +kernel
theorem dX10_knows_141 : decode cX10_knows 141 = .ok (.invokevirtual 82, 3) := by decide +kernel
theorem dX10_knows_144 : decode cX10_knows 144 = .ok (.iinc 3 1, 3) := by decide +kernel
theorem dX10_knows_147 : decode cX10_knows 147 = .ok (.goto (-15), 3) := by decide +kernel
theorem dX10_knows_150 : decode cX10_knows 150 = .ok (.aload_n 0, 1) := by decide +kernel
theorem dX10_knows_151 : decode cX10_knows 151 = .ok (.iconst 1, 1) := by decide +kernel
theorem dX10_knows_152 : decode cX10_knows 152 = .ok (.putfield 73, 3) := by decide +kernel
theorem dX10_knows_155 : decode cX10_knows 155 = .ok (.aload_n 0, 1) := by decide +kernel
theorem dX10_knows_156 : decode cX10_knows 156 = .ok (.iload_n 2, 1) := by decide +kernel
theorem dX10_knows_157 : decode cX10_knows 157 = .ok (.putfield 76, 3) := by decide +kernel
theorem dX10_knows_160 : decode cX10_knows 160 = .ok (.aload_n 0, 1) := by decide +kernel
theorem dX10_knows_161 : decode cX10_knows 161 = .ok (.iload_n 1, 1) := by decide +kernel
theorem dX10_knows_162 : decode cX10_knows 162 = .ok (.putfield 79, 3) := by decide +kernel
theorem dX10_knows_165 : decode cX10_knows 165 = .ok (.return_, 1) := by decide +kernel
theorem dX10_timeWith_0 : decode cX10_timeWith 0 = .ok (.aload_n 0, 1) := by decide +kernel
theorem dX10_timeWith_1 : decode cX10_timeWith 1 = .ok (.iload_n 2, 1) := by decide +kernel
theorem dX10_timeWith_2 : decode cX10_timeWith 2 = .ok (.iload_n 3, 1) := by decide +kernel
theorem dX10_timeWith_3 : decode cX10_timeWith 3 = .ok (.iadd, 1) := by decide +kernel
theorem dX10_timeWith_4 : decode cX10_timeWith 4 = .ok (.invokevirtual 86, 3) := by decide +kernel
theorem dX10_timeWith_7 : decode cX10_timeWith 7 = .ok (.aload_n 0, 1) := by decide +kernel
theorem dX10_timeWith_8 : decode cX10_timeWith 8 = .ok (.getfield 22, 3) := by decide +kernel
theorem dX10_timeWith_11 : decode cX10_timeWith 11 = .ok (.iload_n 1, 1) := by decide +kernel
theorem dX10_timeWith_12 : decode cX10_timeWith 12 = .ok (.aload_n 0, 1) := by decide +kernel
theorem dX10_timeWith_13 : decode cX10_timeWith 13 = .ok (.getfield 7, 3) := by decide +kernel
theorem dX10_timeWith_16 : decode cX10_timeWith 16 = .ok (.iconst 4, 1) := by decide +kernel
theorem dX10_timeWith_17 : decode cX10_timeWith 17 = .ok (.iaload, 1) := by decide +kernel
theorem dX10_timeWith_18 : decode cX10_timeWith 18 = .ok (.iload_n 2, 1) := by decide +kernel
theorem dX10_timeWith_19 : decode cX10_timeWith 19 = .ok (.iload_n 3, 1) := by decide +kernel
theorem dX10_timeWith_20 : decode cX10_timeWith 20 = .ok (.aload_n 0, 1) := by decide +kernel
theorem dX10_timeWith_21 : decode cX10_timeWith 21 = .ok (.getfield 7, 3) := by decide +kernel
theorem dX10_timeWith_24 : decode cX10_timeWith 24 = .ok (.iconst 5, 1) := by decide +kernel
theorem dX10_timeWith_25 : decode cX10_timeWith 25 = .ok (.iaload, 1) := by decide +kernel
theorem dX10_timeWith_26 : decode cX10_timeWith 26 = .ok (.invokestatic 53, 3) := by decide +kernel
theorem dX10_timeWith_29 : decode cX10_timeWith 29 = .ok (.iaload, 1) := by decide +kernel
theorem dX10_timeWith_30 : decode cX10_timeWith 30 = .ok (.ireturn, 1) := by decide +kernel
theorem dX10_timeOf_0 : decode cX10_timeOf 0 = .ok (.aload_n 0, 1) := by decide +kernel
theorem dX10_timeOf_1 : decode cX10_timeOf 1 = .ok (.iload_n 1, 1) := by decide +kernel
theorem dX10_timeOf_2 : decode cX10_timeOf 2 = .ok (.aload_n 0, 1) := by decide +kernel
theorem dX10_timeOf_3 : decode cX10_timeOf 3 = .ok (.getfield 7, 3) := by decide +kernel
theorem dX10_timeOf_6 : decode cX10_timeOf 6 = .ok (.bipush 7, 2) := by decide +kernel
theorem dX10_timeOf_8 : decode cX10_timeOf 8 = .ok (.iaload, 1) := by decide +kernel
theorem dX10_timeOf_9 : decode cX10_timeOf 9 = .ok (.aload_n 0, 1) := by decide +kernel
theorem dX10_timeOf_10 : decode cX10_timeOf 10 = .ok (.getfield 7, 3) := by decide +kernel
theorem dX10_timeOf_13 : decode cX10_timeOf 13 = .ok (.bipush 8, 2) := by decide +kernel
theorem dX10_timeOf_15 : decode cX10_timeOf 15 = .ok (.iaload, 1) := by decide +kernel
theorem dX10_timeOf_16 : decode cX10_timeOf 16 = .ok (.invokevirtual 90, 3) := by decide +kernel
theorem dX10_timeOf_19 : decode cX10_timeOf 19 = .ok (.ireturn, 1) := by decide +kernel
theorem dX10_timeBehind_0 : decode cX10_timeBehind 0 = .ok (.aload_n 0, 1) := by decide +kernel
theorem dX10_timeBehind_1 : decode cX10_timeBehind 1 = .ok (.getfield 22, 3) := by decide +kernel
theorem dX10_timeBehind_4 : decode cX10_timeBehind 4 = .ok (.aload_n 0, 1) := by decide +kernel
theorem dX10_timeBehind_5 : decode cX10_timeBehind 5 = .ok (.iload_n 1, 1) := by decide +kernel
theorem dX10_timeBehind_6 : decode cX10_timeBehind 6 = .ok (.aload_n 0, 1) := by decide +kernel
theorem dX10_timeBehind_7 : decode cX10_timeBehind 7 = .ok (.getfield 7, 3) := by decide +kernel
theorem dX10_timeBehind_10 : decode cX10_timeBehind 10 = .ok (.iconst 4, 1) := by decide +kernel
theorem dX10_timeBehind_11 : decode cX10_timeBehind 11 = .ok (.iaload, 1) := by decide +kernel
theorem dX10_timeBehind_12 : decode cX10_timeBehind 12 = .ok (.aload_n 0, 1) := by decide +kernel
theorem dX10_timeBehind_13 : decode cX10_timeBehind 13 = .ok (.getfield 7, 3) := by decide +kernel
theorem dX10_timeBehind_16 : decode cX10_timeBehind 16 = .ok (.bipush 7, 2) := by decide +kernel
theorem dX10_timeBehind_18 : decode cX10_timeBehind 18 = .ok (.iaload, 1) := by decide +kernel
theorem dX10_timeBehind_19 : decode cX10_timeBehind 19 = .ok (.aload_n 0, 1) := by decide +kernel
theorem dX10_timeBehind_20 : decode cX10_timeBehind 20 = .ok (.getfield 7, 3) := by decide +kernel
theorem dX10_timeBehind_23 : decode cX10_timeBehind 23 = .ok (.bipush 8, 2) := by decide +kernel
theorem dX10_timeBehind_25 : decode cX10_timeBehind 25 = .ok (.iaload, 1) := by decide +kernel
theorem dX10_timeBehind_26 : decode cX10_timeBehind 26 = .ok (.aload_n 0, 1) := by decide +kernel
theorem dX10_timeBehind_27 : decode cX10_timeBehind 27 = .ok (.getfield 7, 3) := by decide +kernel
theorem dX10_timeBehind_30 : decode cX10_timeBehind 30 = .ok (.iconst 5, 1) := by decide +kernel
theorem dX10_timeBehind_31 : decode cX10_timeBehind 31 = .ok (.iaload, 1) := by decide +kernel
theorem dX10_timeBehind_32 : decode cX10_timeBehind 32 = .ok (.iload_n 2, 1) := by decide +kernel
theorem dX10_timeBehind_33 : decode cX10_timeBehind 33 = .ok (.iload_n 3, 1) := by decide +kernel
theorem dX10_timeBehind_34 : decode cX10_timeBehind 34 = .ok (.invokevirtual 57, 3) := by decide +kernel
theorem dX10_timeBehind_37 : decode cX10_timeBehind 37 = .ok (.iaload, 1) := by decide +kernel
theorem dX10_timeBehind_38 : decode cX10_timeBehind 38 = .ok (.istore 4, 2) := by decide +kernel
theorem dX10_timeBehind_40 : decode cX10_timeBehind 40 = .ok (.iload 4, 2) := by decide +kernel
theorem dX10_timeBehind_42 : decode cX10_timeBehind 42 = .ok (.bipush 8, 2) := by decide +kernel
theorem dX10_timeBehind_44 : decode cX10_timeBehind 44 = .ok (.if_icmp .lt 8, 3) := by decide +kernel
theorem dX10_timeBehind_47 : decode cX10_timeBehind 47 = .ok (.bipush 99, 2) := by decide +kernel
theorem dX10_timeBehind_49 : decode cX10_timeBehind 49 = .ok (.goto 5, 3) := by decide +kernel
theorem dX10_timeBehind_52 : decode cX10_timeBehind 52 = .ok (.iload 4, 2) := by decide +kernel
theorem dX10_timeBehind_54 : decode cX10_timeBehind 54 = .ok (.ireturn, 1) := by decide +kernel
theorem dX10_isSetting_0 : decode cX10_isSetting 0 = .ok (.iload_n 0, 1) := by decide +kernel
theorem dX10_isSetting_1 : decode cX10_isSetting 1 = .ok (.tableswitch 59 0 3 #[31, 41, 51, 51], 31) := by decide +kernel
theorem dX10_isSetting_32 : decode cX10_isSetting 32 = .ok (.iload_n 1, 1) := by decide +kernel
theorem dX10_isSetting_33 : decode cX10_isSetting 33 = .ok (.i2l, 1) := by decide +kernel
theorem dX10_isSetting_34 : decode cX10_isSetting 34 = .ok (.lconst 1, 1) := by decide +kernel
theorem dX10_isSetting_35 : decode cX10_isSetting 35 = .ok (.ldc2_w 93, 3) := by decide +kernel
theorem dX10_isSetting_38 : decode cX10_isSetting 38 = .ok (.invokestatic 95, 3) := by decide +kernel
theorem dX10_isSetting_41 : decode cX10_isSetting 41 = .ok (.ireturn, 1) := by decide +kernel
theorem dX10_isSetting_42 : decode cX10_isSetting 42 = .ok (.iload_n 1, 1) := by decide +kernel
theorem dX10_isSetting_43 : decode cX10_isSetting 43 = .ok (.i2l, 1) := by decide +kernel
theorem dX10_isSetting_44 : decode cX10_isSetting 44 = .ok (.lconst 0, 1) := by decide +kernel
theorem dX10_isSetting_45 : decode cX10_isSetting 45 = .ok (.ldc2_w 99, 3) := by decide +kernel
theorem dX10_isSetting_48 : decode cX10_isSetting 48 = .ok (.invokestatic 95, 3) := by decide +kernel
theorem dX10_isSetting_51 : decode cX10_isSetting 51 = .ok (.ireturn, 1) := by decide +kernel
theorem dX10_isSetting_52 : decode cX10_isSetting 52 = .ok (.iload_n 1, 1) := by decide +kernel
theorem dX10_isSetting_53 : decode cX10_isSetting 53 = .ok (.i2l, 1) := by decide +kernel
theorem dX10_isSetting_54 : decode cX10_isSetting 54 = .ok (.lconst 0, 1) := by decide +kernel
theorem dX10_isSetting_55 : decode cX10_isSetting 55 = .ok (.lconst 1, 1) := by decide +kernel
theorem dX10_isSetting_56 : decode cX10_isSetting 56 = .ok (.invokestatic 95, 3) := by decide +kernel
theorem dX10_isSetting_59 : decode cX10_isSetting 59 = .ok (.ireturn, 1) := by decide +kernel
theorem dX10_isSetting_60 : decode cX10_isSetting 60 = .ok (.iconst 0, 1) := by decide +kernel
theorem dX10_isSetting_61 : decode cX10_isSetting 61 = .ok (.ireturn, 1) := by decide +kernel
theorem dX10_set_0 : decode cX10_set 0 = .ok (.iload_n 1, 1) := by decide +kernel
theorem dX10_set_1 : decode cX10_set 1 = .ok (.iload_n 2, 1) := by decide +kernel
theorem dX10_set_2 : decode cX10_set 2 = .ok (.invokestatic 101, 3) := by decide +kernel
theorem dX10_set_5 : decode cX10_set 5 = .ok (.ifCond .ne 7, 3) := by decide +kernel
theorem dX10_set_8 : decode cX10_set 8 = .ok (.sipush (-1002), 3) := by decide +kernel
theorem dX10_set_11 : decode cX10_set 11 = .ok (.ireturn, 1) := by decide +kernel
theorem dX10_set_12 : decode cX10_set 12 = .ok (.aload_n 0, 1) := by decide +kernel
theorem dX10_set_13 : decode cX10_set 13 = .ok (.invokevirtual 105, 3) := by decide +kernel
theorem dX10_set_16 : decode cX10_set 16 = .ok (.aload_n 0, 1) := by decide +kernel
theorem dX10_set_17 : decode cX10_set 17 = .ok (.getfield 7, 3) := by decide +kernel
theorem dX10_set_20 : decode cX10_set 20 = .ok (.iload_n 1, 1) := by decide +kernel
theorem dX10_set_21 : decode cX10_set 21 = .ok (.iaload, 1) := by decide +kernel
theorem dX10_set_22 : decode cX10_set 22 = .ok (.istore_n 3, 1) := by decide +kernel
theorem dX10_set_23 : decode cX10_set 23 = .ok (.aload_n 0, 1) := by decide +kernel
theorem dX10_set_24 : decode cX10_set 24 = .ok (.getfield 7, 3) := by decide +kernel
theorem dX10_set_27 : decode cX10_set 27 = .ok (.iload_n 1, 1) := by decide +kernel
theorem dX10_set_28 : decode cX10_set 28 = .ok (.iload_n 2, 1) := by decide +kernel
theorem dX10_set_29 : decode cX10_set 29 = .ok (.iastore, 1) := by decide +kernel
theorem dX10_set_30 : decode cX10_set 30 = .ok (.aload_n 0, 1) := by decide +kernel
theorem dX10_set_31 : decode cX10_set 31 = .ok (.invokevirtual 31, 3) := by decide +kernel
theorem dX10_set_34 : decode cX10_set 34 = .ok (.iload_n 3, 1) := by decide +kernel
theorem dX10_set_35 : decode cX10_set 35 = .ok (.ireturn, 1) := by decide +kernel
theorem dX10_begin_0 : decode cX10_begin 0 = .ok (.iload_n 1, 1) := by decide +kernel
theorem dX10_begin_1 : decode cX10_begin 1 = .ok (.i2l, 1) := by decide +kernel
theorem dX10_begin_2 : decode cX10_begin 2 = .ok (.lconst 0, 1) := by decide +kernel
theorem dX10_begin_3 : decode cX10_begin 3 = .ok (.ldc2_w 108, 3) := by decide +kernel
theorem dX10_begin_6 : decode cX10_begin 6 = .ok (.invokestatic 95, 3) := by decide +kernel
theorem dX10_begin_9 : decode cX10_begin 9 = .ok (.ifCond .eq 15, 3) := by decide +kernel
theorem dX10_begin_12 : decode cX10_begin 12 = .ok (.iload_n 2, 1) := by decide +kernel
theorem dX10_begin_13 : decode cX10_begin 13 = .ok (.i2l, 1) := by decide +kernel
theorem dX10_begin_14 : decode cX10_begin 14 = .ok (.lconst 0, 1) := by decide +kernel
theorem dX10_begin_15 : decode cX10_begin 15 = .ok (.ldc2_w 108, 3) := by decide +kernel
theorem dX10_begin_18 : decode cX10_begin 18 = .ok (.invokestatic 95, 3) := by decide +kernel
theorem dX10_begin_21 : decode cX10_begin 21 = .ok (.ifCond .ne 7, 3) := by decide +kernel
theorem dX10_begin_24 : decode cX10_begin 24 = .ok (.sipush (-1002), 3) := by decide +kernel
theorem dX10_begin_27 : decode cX10_begin 27 = .ok (.ireturn, 1) := by decide +kernel
theorem dX10_begin_28 : decode cX10_begin 28 = .ok (.aload_n 0, 1) := by decide +kernel
theorem dX10_begin_29 : decode cX10_begin 29 = .ok (.invokevirtual 105, 3) := by decide +kernel
theorem dX10_begin_32 : decode cX10_begin 32 = .ok (.aload_n 0, 1) := by decide +kernel
theorem dX10_begin_33 : decode cX10_begin 33 = .ok (.getfield 7, 3) := by decide +kernel
theorem dX10_begin_36 : decode cX10_begin 36 = .ok (.bipush 6, 2) := by decide +kernel
theorem dX10_begin_38 : decode cX10_begin 38 = .ok (.iaload, 1) := by decide +kernel
theorem dX10_begin_39 : decode cX10_begin 39 = .ok (.istore_n 3, 1) := by decide +kernel
theorem dX10_begin_40 : decode cX10_begin 40 = .ok (.aload_n 0, 1) := by decide +kernel
theorem dX10_begin_41 : decode cX10_begin 41 = .ok (.getfield 7, 3) := by decide +kernel
theorem dX10_begin_44 : decode cX10_begin 44 = .ok (.bipush 9, 2) := by decide +kernel
theorem dX10_begin_46 : decode cX10_begin 46 = .ok (.iload_n 1, 1) := by decide +kernel
theorem dX10_begin_47 : decode cX10_begin 47 = .ok (.iastore, 1) := by decide +kernel
theorem dX10_begin_48 : decode cX10_begin 48 = .ok (.aload_n 0, 1) := by decide +kernel
theorem dX10_begin_49 : decode cX10_begin 49 = .ok (.getfield 7, 3) := by decide +kernel
theorem dX10_begin_52 : decode cX10_begin 52 = .ok (.bipush 10, 2) := by decide +kernel
theorem dX10_begin_54 : decode cX10_begin 54 = .ok (.iload_n 2, 1) := by decide +kernel
theorem dX10_begin_55 : decode cX10_begin 55 = .ok (.iastore, 1) := by decide +kernel
theorem dX10_begin_56 : decode cX10_begin 56 = .ok (.aload_n 0, 1) := by decide +kernel
theorem dX10_begin_57 : decode cX10_begin 57 = .ok (.invokevirtual 31, 3) := by decide +kernel
theorem dX10_begin_60 : decode cX10_begin 60 = .ok (.iload_n 3, 1) := by decide +kernel
theorem dX10_begin_61 : decode cX10_begin 61 = .ok (.ireturn, 1) := by decide +kernel
theorem dX10_round_0 : decode cX10_round 0 = .ok (.iload_n 1, 1) := by decide +kernel
theorem dX10_round_1 : decode cX10_round 1 = .ok (.i2l, 1) := by decide +kernel
theorem dX10_round_2 : decode cX10_round 2 = .ok (.lconst 0, 1) := by decide +kernel
theorem dX10_round_3 : decode cX10_round 3 = .ok (.ldc2_w 110, 3) := by decide +kernel
theorem dX10_round_6 : decode cX10_round 6 = .ok (.invokestatic 95, 3) := by decide +kernel
theorem dX10_round_9 : decode cX10_round 9 = .ok (.ifCond .eq 15, 3) := by decide +kernel
theorem dX10_round_12 : decode cX10_round 12 = .ok (.iload_n 2, 1) := by decide +kernel
theorem dX10_round_13 : decode cX10_round 13 = .ok (.i2l, 1) := by decide +kernel
theorem dX10_round_14 : decode cX10_round 14 = .ok (.lconst 0, 1) := by decide +kernel
theorem dX10_round_15 : decode cX10_round 15 = .ok (.ldc2_w 110, 3) := by decide +kernel
theorem dX10_round_18 : decode cX10_round 18 = .ok (.invokestatic 95, 3) := by decide +kernel
theorem dX10_round_21 : decode cX10_round 21 = .ok (.ifCond .ne 7, 3) := by decide +kernel
theorem dX10_round_24 : decode cX10_round 24 = .ok (.sipush (-1002), 3) := by decide +kernel
theorem dX10_round_27 : decode cX10_round 27 = .ok (.ireturn, 1) := by decide +kernel
theorem dX10_round_28 : decode cX10_round 28 = .ok (.aload_n 0, 1) := by decide +kernel
theorem dX10_round_29 : decode cX10_round 29 = .ok (.iload_n 1, 1) := by decide +kernel
theorem dX10_round_30 : decode cX10_round 30 = .ok (.iload_n 2, 1) := by decide +kernel
theorem dX10_round_31 : decode cX10_round 31 = .ok (.invokevirtual 112, 3) := by decide +kernel
theorem dX10_round_34 : decode cX10_round 34 = .ok (.ifCond .ne 7, 3) := by decide +kernel
theorem dX10_round_37 : decode cX10_round 37 = .ok (.sipush (-1005), 3) := by decide +kernel
theorem dX10_round_40 : decode cX10_round 40 = .ok (.ireturn, 1) := by decide +kernel
theorem dX10_round_41 : decode cX10_round 41 = .ok (.aload_n 0, 1) := by decide +kernel
theorem dX10_round_42 : decode cX10_round 42 = .ok (.invokevirtual 105, 3) := by decide +kernel
theorem dX10_round_45 : decode cX10_round 45 = .ok (.aload_n 0, 1) := by decide +kernel
theorem dX10_round_46 : decode cX10_round 46 = .ok (.iload_n 1, 1) := by decide +kernel
theorem dX10_round_47 : decode cX10_round 47 = .ok (.iload_n 2, 1) := by decide +kernel
theorem dX10_round_48 : decode cX10_round 48 = .ok (.invokevirtual 115, 3) := by decide +kernel
theorem dX10_round_51 : decode cX10_round 51 = .ok (.ireturn, 1) := by decide +kernel
theorem dX10_play_0 : decode cX10_play 0 = .ok (.aload_n 0, 1) := by decide +kernel
theorem dX10_play_1 : decode cX10_play 1 = .ok (.invokevirtual 46, 3) := by decide +kernel
theorem dX10_play_4 : decode cX10_play 4 = .ok (.ifCond .eq 7, 3) := by decide +kernel
theorem dX10_play_7 : decode cX10_play 7 = .ok (.sipush (-1005), 3) := by decide +kernel
theorem dX10_play_10 : decode cX10_play 10 = .ok (.ireturn, 1) := by decide +kernel
theorem dX10_play_11 : decode cX10_play 11 = .ok (.aload_n 0, 1) := by decide +kernel
theorem dX10_play_12 : decode cX10_play 12 = .ok (.invokevirtual 119, 3) := by decide +kernel
theorem dX10_play_15 : decode cX10_play 15 = .ok (.istore_n 1, 1) := by decide +kernel
theorem dX10_play_16 : decode cX10_play 16 = .ok (.aload_n 0, 1) := by decide +kernel
theorem dX10_play_17 : decode cX10_play 17 = .ok (.iload_n 1, 1) := by decide +kernel
theorem dX10_play_18 : decode cX10_play 18 = .ok (.invokevirtual 122, 3) := by decide +kernel
theorem dX10_play_21 : decode cX10_play 21 = .ok (.istore_n 2, 1) := by decide +kernel
theorem dX10_play_22 : decode cX10_play 22 = .ok (.aload_n 0, 1) := by decide +kernel
theorem dX10_play_23 : decode cX10_play 23 = .ok (.invokevirtual 105, 3) := by decide +kernel
theorem dX10_play_26 : decode cX10_play 26 = .ok (.aload_n 0, 1) := by decide +kernel
theorem dX10_play_27 : decode cX10_play 27 = .ok (.iload_n 1, 1) := by decide +kernel
theorem dX10_play_28 : decode cX10_play 28 = .ok (.iload_n 2, 1) := by decide +kernel
theorem dX10_play_29 : decode cX10_play 29 = .ok (.invokevirtual 115, 3) := by decide +kernel
theorem dX10_play_32 : decode cX10_play 32 = .ok (.ireturn, 1) := by decide +kernel
theorem dX10_player_0 : decode cX10_player 0 = .ok (.iload_n 1, 1) := by decide +kernel
theorem dX10_player_1 : decode cX10_player 1 = .ok (.invokestatic 125, 3) := by decide +kernel
theorem dX10_player_4 : decode cX10_player 4 = .ok (.ifCond .ne 7, 3) := by decide +kernel
theorem dX10_player_7 : decode cX10_player 7 = .ok (.sipush (-1001), 3) := by decide +kernel
theorem dX10_player_10 : decode cX10_player 10 = .ok (.ireturn, 1) := by decide +kernel
theorem dX10_player_11 : decode cX10_player 11 = .ok (.iload_n 2, 1) := by decide +kernel
theorem dX10_player_12 : decode cX10_player 12 = .ok (.tableswitch 122 0 6 #[44, 54, 60, 70, 80, 90, 100], 44) := by decide +kernel
theorem dX10_player_56 : decode cX10_player 56 = .ok (.aload_n 0, 1) := by decide +kernel
theorem dX10_player_57 : decode cX10_player 57 = .ok (.getfield 7, 3) := by decide +kernel
theorem dX10_player_60 : decode cX10_player 60 = .ok (.bipush 7, 2) := by decide +kernel
theorem dX10_player_62 : decode cX10_player 62 = .ok (.iload_n 1, 1) := by decide +kernel
theorem dX10_player_63 : decode cX10_player 63 = .ok (.iadd, 1) := by decide +kernel
theorem dX10_player_64 : decode cX10_player 64 = .ok (.iaload, 1) := by decide +kernel
theorem dX10_player_65 : decode cX10_player 65 = .ok (.ireturn, 1) := by decide +kernel
theorem dX10_player_66 : decode cX10_player 66 = .ok (.aload_n 0, 1) := by decide +kernel
theorem dX10_player_67 : decode cX10_player 67 = .ok (.iload_n 1, 1) := by decide +kernel
theorem dX10_player_68 : decode cX10_player 68 = .ok (.invokevirtual 50, 3) := by decide +kernel
theorem dX10_player_71 : decode cX10_player 71 = .ok (.ireturn, 1) := by decide +kernel
theorem dX10_player_72 : decode cX10_player 72 = .ok (.aload_n 0, 1) := by decide +kernel
theorem dX10_player_73 : decode cX10_player 73 = .ok (.getfield 7, 3) := by decide +kernel
theorem dX10_player_76 : decode cX10_player 76 = .ok (.bipush 9, 2) := by decide +kernel
theorem dX10_player_78 : decode cX10_player 78 = .ok (.iload_n 1, 1) := by decide +kernel
theorem dX10_player_79 : decode cX10_player 79 = .ok (.iadd, 1) := by decide +kernel
theorem dX10_player_80 : decode cX10_player 80 = .ok (.iaload, 1) := by decide +kernel
theorem dX10_player_81 : decode cX10_player 81 = .ok (.ireturn, 1) := by decide +kernel
theorem dX10_player_82 : decode cX10_player 82 = .ok (.aload_n 0, 1) := by decide +kernel
theorem dX10_player_83 : decode cX10_player 83 = .ok (.getfield 7, 3) := by decide +kernel
theorem dX10_player_86 : decode cX10_player 86 = .ok (.bipush 11, 2) := by decide +kernel
theorem dX10_player_88 : decode cX10_player 88 = .ok (.iload_n 1, 1) := by decide +kernel
theorem dX10_player_89 : decode cX10_player 89 = .ok (.iadd, 1) := by decide +kernel
theorem dX10_player_90 : decode cX10_player 90 = .ok (.iaload, 1) := by decide +kernel
theorem dX10_player_91 : decode cX10_player 91 = .ok (.ireturn, 1) := by decide +kernel
theorem dX10_player_92 : decode cX10_player 92 = .ok (.aload_n 0, 1) := by decide +kernel
theorem dX10_player_93 : decode cX10_player 93 = .ok (.getfield 7, 3) := by decide +kernel
theorem dX10_player_96 : decode cX10_player 96 = .ok (.bipush 13, 2) := by decide +kernel
theorem dX10_player_98 : decode cX10_player 98 = .ok (.iload_n 1, 1) := by decide +kernel
theorem dX10_player_99 : decode cX10_player 99 = .ok (.iadd, 1) := by decide +kernel
theorem dX10_player_100 : decode cX10_player 100 = .ok (.iaload, 1) := by decide +kernel
theorem dX10_player_101 : decode cX10_player 101 = .ok (.ireturn, 1) := by decide +kernel
theorem dX10_player_102 : decode cX10_player 102 = .ok (.aload_n 0, 1) := by decide +kernel
theorem dX10_player_103 : decode cX10_player 103 = .ok (.getfield 7, 3) := by decide +kernel
theorem dX10_player_106 : decode cX10_player 106 = .ok (.bipush 15, 2) := by decide +kernel
theorem dX10_player_108 : decode cX10_player 108 = .ok (.iload_n 1, 1) := by decide +kernel
theorem dX10_player_109 : decode cX10_player 109 = .ok (.iadd, 1) := by decide +kernel
theorem dX10_player_110 : decode cX10_player 110 = .ok (.iaload, 1) := by decide +kernel
theorem dX10_player_111 : decode cX10_player 111 = .ok (.ireturn, 1) := by decide +kernel
theorem dX10_player_112 : decode cX10_player 112 = .ok (.aload_n 0, 1) := by decide +kernel
theorem dX10_player_113 : decode cX10_player 113 = .ok (.iload_n 1, 1) := by decide +kernel
theorem dX10_player_114 : decode cX10_player 114 = .ok (.invokevirtual 129, 3) := by decide +kernel
theorem dX10_player_117 : decode cX10_player 117 = .ok (.bipush 99, 2) := by decide +kernel
theorem dX10_player_119 : decode cX10_player 119 = .ok (.if_icmp .ne 9, 3) := by decide +kernel
theorem dX10_player_122 : decode cX10_player 122 = .ok (.sipush (-1006), 3) := by decide +kernel
theorem dX10_player_125 : decode cX10_player 125 = .ok (.goto 8, 3) := by decide +kernel
theorem dX10_player_128 : decode cX10_player 128 = .ok (.aload_n 0, 1) := by decide +kernel
theorem dX10_player_129 : decode cX10_player 129 = .ok (.iload_n 1, 1) := by decide +kernel
theorem dX10_player_130 : decode cX10_player 130 = .ok (.invokevirtual 129, 3) := by decide +kernel
theorem dX10_player_133 : decode cX10_player 133 = .ok (.ireturn, 1) := by decide +kernel
theorem dX10_player_134 : decode cX10_player 134 = .ok (.sipush (-1002), 3) := by decide +kernel
theorem dX10_player_137 : decode cX10_player 137 = .ok (.ireturn, 1) := by decide +kernel
theorem dX10_count_0 : decode cX10_count 0 = .ok (.iload_n 1, 1) := by decide +kernel
theorem dX10_count_1 : decode cX10_count 1 = .ok (.tableswitch 119 4 11 #[47, 54, 74, 82, 93, 101, 109, 114], 47) := by decide +kernel
theorem dX10_count_48 : decode cX10_count 48 = .ok (.aload_n 0, 1) := by decide +kernel
theorem dX10_count_49 : decode cX10_count 49 = .ok (.getfield 7, 3) := by decide +kernel
theorem dX10_count_52 : decode cX10_count 52 = .ok (.iconst 4, 1) := by decide +kernel
theorem dX10_count_53 : decode cX10_count 53 = .ok (.iaload, 1) := by decide +kernel
theorem dX10_count_54 : decode cX10_count 54 = .ok (.ireturn, 1) := by decide +kernel
theorem dX10_count_55 : decode cX10_count 55 = .ok (.aload_n 0, 1) := by decide +kernel
theorem dX10_count_56 : decode cX10_count 56 = .ok (.invokevirtual 46, 3) := by decide +kernel
theorem dX10_count_59 : decode cX10_count 59 = .ok (.ifCond .eq 9, 3) := by decide +kernel
theorem dX10_count_62 : decode cX10_count 62 = .ok (.sipush (-1006), 3) := by decide +kernel
theorem dX10_count_65 : decode cX10_count 65 = .ok (.goto 9, 3) := by decide +kernel
theorem dX10_count_68 : decode cX10_count 68 = .ok (.aload_n 0, 1) := by decide +kernel
theorem dX10_count_69 : decode cX10_count 69 = .ok (.getfield 7, 3) := by decide +kernel
theorem dX10_count_72 : decode cX10_count 72 = .ok (.iconst 5, 1) := by decide +kernel
theorem dX10_count_73 : decode cX10_count 73 = .ok (.iaload, 1) := by decide +kernel
theorem dX10_count_74 : decode cX10_count 74 = .ok (.ireturn, 1) := by decide +kernel
theorem dX10_count_75 : decode cX10_count 75 = .ok (.aload_n 0, 1) := by decide +kernel
theorem dX10_count_76 : decode cX10_count 76 = .ok (.getfield 7, 3) := by decide +kernel
theorem dX10_count_79 : decode cX10_count 79 = .ok (.bipush 6, 2) := by decide +kernel
theorem dX10_count_81 : decode cX10_count 81 = .ok (.iaload, 1) := by decide +kernel
theorem dX10_count_82 : decode cX10_count 82 = .ok (.ireturn, 1) := by decide +kernel
theorem dX10_count_83 : decode cX10_count 83 = .ok (.aload_n 0, 1) := by decide +kernel
theorem dX10_count_84 : decode cX10_count 84 = .ok (.aload_n 0, 1) := by decide +kernel
theorem dX10_count_85 : decode cX10_count 85 = .ok (.getfield 7, 3) := by decide +kernel
theorem dX10_count_88 : decode cX10_count 88 = .ok (.iconst 4, 1) := by decide +kernel
theorem dX10_count_89 : decode cX10_count 89 = .ok (.iaload, 1) := by decide +kernel
theorem dX10_count_90 : decode cX10_count 90 = .ok (.invokevirtual 38, 3) := by decide +kernel
theorem dX10_count_93 : decode cX10_count 93 = .ok (.ireturn, 1) := by decide +kernel
theorem dX10_count_94 : decode cX10_count 94 = .ok (.aload_n 0, 1) := by decide +kernel
theorem dX10_count_95 : decode cX10_count 95 = .ok (.getfield 7, 3) := by decide +kernel
theorem dX10_count_98 : decode cX10_count 98 = .ok (.bipush 17, 2) := by decide +kernel
theorem dX10_count_100 : decode cX10_count 100 = .ok (.iaload, 1) := by decide +kernel
theorem dX10_count_101 : decode cX10_count 101 = .ok (.ireturn, 1) := by decide +kernel
theorem dX10_count_102 : decode cX10_count 102 = .ok (.aload_n 0, 1) := by decide +kernel
theorem dX10_count_103 : decode cX10_count 103 = .ok (.getfield 7, 3) := by decide +kernel
theorem dX10_count_106 : decode cX10_count 106 = .ok (.bipush 18, 2) := by decide +kernel
theorem dX10_count_108 : decode cX10_count 108 = .ok (.iaload, 1) := by decide +kernel
theorem dX10_count_109 : decode cX10_count 109 = .ok (.ireturn, 1) := by decide +kernel
theorem dX10_count_110 : decode cX10_count 110 = .ok (.aload_n 0, 1) := by decide +kernel
theorem dX10_count_111 : decode cX10_count 111 = .ok (.getfield 132, 3) := by decide +kernel
theorem dX10_count_114 : decode cX10_count 114 = .ok (.ireturn, 1) := by decide +kernel
theorem dX10_count_115 : decode cX10_count 115 = .ok (.aload_n 0, 1) := by decide +kernel
theorem dX10_count_116 : decode cX10_count 116 = .ok (.getfield 34, 3) := by decide +kernel
theorem dX10_count_119 : decode cX10_count 119 = .ok (.ireturn, 1) := by decide +kernel
theorem dX10_count_120 : decode cX10_count 120 = .ok (.iload_n 1, 1) := by decide +kernel
theorem dX10_count_121 : decode cX10_count 121 = .ok (.i2l, 1) := by decide +kernel
theorem dX10_count_122 : decode cX10_count 122 = .ok (.lconst 0, 1) := by decide +kernel
theorem dX10_count_123 : decode cX10_count 123 = .ok (.ldc2_w 93, 3) := by decide +kernel
theorem dX10_count_126 : decode cX10_count 126 = .ok (.invokestatic 95, 3) := by decide +kernel
theorem dX10_count_129 : decode cX10_count 129 = .ok (.ifCond .eq 12, 3) := by decide +kernel
theorem dX10_count_132 : decode cX10_count 132 = .ok (.aload_n 0, 1) := by decide +kernel
theorem dX10_count_133 : decode cX10_count 133 = .ok (.getfield 7, 3) := by decide +kernel
theorem dX10_count_136 : decode cX10_count 136 = .ok (.iload_n 1, 1) := by decide +kernel
theorem dX10_count_137 : decode cX10_count 137 = .ok (.iaload, 1) := by decide +kernel
theorem dX10_count_138 : decode cX10_count 138 = .ok (.goto 6, 3) := by decide +kernel
theorem dX10_count_141 : decode cX10_count 141 = .ok (.sipush (-1002), 3) := by decide +kernel
theorem dX10_count_144 : decode cX10_count 144 = .ok (.ireturn, 1) := by decide +kernel
theorem dX10_forced_0 : decode cX10_forced 0 = .ok (.iload_n 1, 1) := by decide +kernel
theorem dX10_forced_1 : decode cX10_forced 1 = .ok (.invokestatic 125, 3) := by decide +kernel
theorem dX10_forced_4 : decode cX10_forced 4 = .ok (.ifCond .ne 7, 3) := by decide +kernel
theorem dX10_forced_7 : decode cX10_forced 7 = .ok (.sipush (-1001), 3) := by decide +kernel
theorem dX10_forced_10 : decode cX10_forced 10 = .ok (.ireturn, 1) := by decide +kernel
theorem dX10_forced_11 : decode cX10_forced 11 = .ok (.iload_n 2, 1) := by decide +kernel
theorem dX10_forced_12 : decode cX10_forced 12 = .ok (.i2l, 1) := by decide +kernel
theorem dX10_forced_13 : decode cX10_forced 13 = .ok (.lconst 0, 1) := by decide +kernel
theorem dX10_forced_14 : decode cX10_forced 14 = .ok (.ldc2_w 135, 3) := by decide +kernel
theorem dX10_forced_17 : decode cX10_forced 17 = .ok (.invokestatic 95, 3) := by decide +kernel
theorem dX10_forced_20 : decode cX10_forced 20 = .ok (.ifCond .ne 7, 3) := by decide +kernel
theorem dX10_forced_23 : decode cX10_forced 23 = .ok (.sipush (-1002), 3) := by decide +kernel
theorem dX10_forced_26 : decode cX10_forced 26 = .ok (.ireturn, 1) := by decide +kernel
theorem dX10_forced_27 : decode cX10_forced 27 = .ok (.aload_n 0, 1) := by decide +kernel
theorem dX10_forced_28 : decode cX10_forced 28 = .ok (.iload_n 1, 1) := by decide +kernel
theorem dX10_forced_29 : decode cX10_forced 29 = .ok (.invokevirtual 129, 3) := by decide +kernel
theorem dX10_forced_32 : decode cX10_forced 32 = .ok (.iload_n 2, 1) := by decide +kernel
theorem dX10_forced_33 : decode cX10_forced 33 = .ok (.if_icmp .gt 7, 3) := by decide +kernel
theorem dX10_forced_36 : decode cX10_forced 36 = .ok (.iconst 1, 1) := by decide +kernel
theorem dX10_forced_37 : decode cX10_forced 37 = .ok (.goto 4, 3) := by decide +kernel
theorem dX10_forced_40 : decode cX10_forced 40 = .ok (.iconst 0, 1) := by decide +kernel
theorem dX10_forced_41 : decode cX10_forced 41 = .ok (.ireturn, 1) := by decide +kernel
theorem dX10_ahead_0 : decode cX10_ahead 0 = .ok (.iload_n 1, 1) := by decide +kernel
theorem dX10_ahead_1 : decode cX10_ahead 1 = .ok (.invokestatic 125, 3) := by decide +kernel
theorem dX10_ahead_4 : decode cX10_ahead 4 = .ok (.ifCond .ne 7, 3) := by decide +kernel
theorem dX10_ahead_7 : decode cX10_ahead 7 = .ok (.sipush (-1001), 3) := by decide +kernel
theorem dX10_ahead_10 : decode cX10_ahead 10 = .ok (.ireturn, 1) := by decide +kernel
theorem dX10_ahead_11 : decode cX10_ahead 11 = .ok (.iload_n 2, 1) := by decide +kernel
theorem dX10_ahead_12 : decode cX10_ahead 12 = .ok (.i2l, 1) := by decide +kernel
theorem dX10_ahead_13 : decode cX10_ahead 13 = .ok (.lconst 0, 1) := by decide +kernel
theorem dX10_ahead_14 : decode cX10_ahead 14 = .ok (.ldc2_w 93, 3) := by decide +kernel
theorem dX10_ahead_17 : decode cX10_ahead 17 = .ok (.invokestatic 95, 3) := by decide +kernel
theorem dX10_ahead_20 : decode cX10_ahead 20 = .ok (.ifCond .eq 12, 3) := by decide +kernel
theorem dX10_ahead_23 : decode cX10_ahead 23 = .ok (.aload_n 0, 1) := by decide +kernel
theorem dX10_ahead_24 : decode cX10_ahead 24 = .ok (.iload_n 1, 1) := by decide +kernel
theorem dX10_ahead_25 : decode cX10_ahead 25 = .ok (.iload_n 2, 1) := by decide +kernel
theorem dX10_ahead_26 : decode cX10_ahead 26 = .ok (.invokevirtual 137, 3) := by decide +kernel
theorem dX10_ahead_29 : decode cX10_ahead 29 = .ok (.goto 6, 3) := by decide +kernel
theorem dX10_ahead_32 : decode cX10_ahead 32 = .ok (.sipush (-1002), 3) := by decide +kernel
theorem dX10_ahead_35 : decode cX10_ahead 35 = .ok (.ireturn, 1) := by decide +kernel
theorem dX10_worstBehind_0 : decode cX10_worstBehind 0 = .ok (.iconst 0, 1) := by decide +kernel
theorem dX10_worstBehind_1 : decode cX10_worstBehind 1 = .ok (.istore_n 2, 1) := by decide +kernel
theorem dX10_worstBehind_2 : decode cX10_worstBehind 2 = .ok (.iconst 0, 1) := by decide +kernel
theorem dX10_worstBehind_3 : decode cX10_worstBehind 3 = .ok (.istore_n 3, 1) := by decide +kernel
theorem dX10_worstBehind_4 : decode cX10_worstBehind 4 = .ok (.iload_n 3, 1) := by decide +kernel
theorem dX10_worstBehind_5 : decode cX10_worstBehind 5 = .ok (.aload_n 0, 1) := by decide +kernel
theorem dX10_worstBehind_6 : decode cX10_worstBehind 6 = .ok (.iconst 1, 1) := by decide +kernel
theorem dX10_worstBehind_7 : decode cX10_worstBehind 7 = .ok (.aload_n 0, 1) := by decide +kernel
theorem dX10_worstBehind_8 : decode cX10_worstBehind 8 = .ok (.getfield 7, 3) := by decide +kernel
theorem dX10_worstBehind_11 : decode cX10_worstBehind 11 = .ok (.iconst 5, 1) := by decide +kernel
theorem dX10_worstBehind_12 : decode cX10_worstBehind 12 = .ok (.iaload, 1) := by decide +kernel
theorem dX10_worstBehind_13 : decode cX10_worstBehind 13 = .ok (.isub, 1) := by decide +kernel
theorem dX10_worstBehind_14 : decode cX10_worstBehind 14 = .ok (.invokevirtual 50, 3) := by decide +kernel
theorem dX10_worstBehind_17 : decode cX10_worstBehind 17 = .ok (.if_icmp .gt 36, 3) := by decide +kernel
theorem dX10_worstBehind_20 : decode cX10_worstBehind 20 = .ok (.aload_n 0, 1) := by decide +kernel
theorem dX10_worstBehind_21 : decode cX10_worstBehind 21 = .ok (.aload_n 0, 1) := by decide +kernel
theorem dX10_worstBehind_22 : decode cX10_worstBehind 22 = .ok (.getfield 7, 3) := by decide +kernel
theorem dX10_worstBehind_25 : decode cX10_worstBehind 25 = .ok (.iconst 5, 1) := by decide +kernel
theorem dX10_worstBehind_26 : decode cX10_worstBehind 26 = .ok (.iaload, 1) := by decide +kernel
theorem dX10_worstBehind_27 : decode cX10_worstBehind 27 = .ok (.iload_n 1, 1) := by decide +kernel
theorem dX10_worstBehind_28 : decode cX10_worstBehind 28 = .ok (.iload_n 3, 1) := by decide +kernel
theorem dX10_worstBehind_29 : decode cX10_worstBehind 29 = .ok (.invokevirtual 140, 3) := by decide +kernel
theorem dX10_worstBehind_32 : decode cX10_worstBehind 32 = .ok (.istore 4, 2) := by decide +kernel
theorem dX10_worstBehind_34 : decode cX10_worstBehind 34 = .ok (.iload 4, 2) := by decide +kernel
theorem dX10_worstBehind_36 : decode cX10_worstBehind 36 = .ok (.iload_n 2, 1) := by decide +kernel
theorem dX10_worstBehind_37 : decode cX10_worstBehind 37 = .ok (.if_icmp .le 8, 3) := by decide +kernel
theorem dX10_worstBehind_40 : decode cX10_worstBehind 40 = .ok (.iload 4, 2) := by decide +kernel
theorem dX10_worstBehind_42 : decode cX10_worstBehind 42 = .ok (.goto 4, 3) := by decide +kernel
theorem dX10_worstBehind_45 : decode cX10_worstBehind 45 = .ok (.iload_n 2, 1) := by decide +kernel
theorem dX10_worstBehind_46 : decode cX10_worstBehind 46 = .ok (.istore_n 2, 1) := by decide +kernel
theorem dX10_worstBehind_47 : decode cX10_worstBehind 47 = .ok (.iinc 3 1, 3) := by decide +kernel
theorem dX10_worstBehind_50 : decode cX10_worstBehind 50 = .ok (.goto (-46), 3) := by decide +kernel
theorem dX10_worstBehind_53 : decode cX10_worstBehind 53 = .ok (.iload_n 2, 1) := by decide +kernel
theorem dX10_worstBehind_54 : decode cX10_worstBehind 54 = .ok (.ireturn, 1) := by decide +kernel
theorem dX10_othersBehind_0 : decode cX10_othersBehind 0 = .ok (.bipush 99, 2) := by decide +kernel
theorem dX10_othersBehind_2 : decode cX10_othersBehind 2 = .ok (.istore_n 2, 1) := by decide +kernel
theorem dX10_othersBehind_3 : decode cX10_othersBehind 3 = .ok (.iconst 0, 1) := by decide +kernel
theorem dX10_othersBehind_4 : decode cX10_othersBehind 4 = .ok (.istore_n 3, 1) := by decide +kernel
theorem dX10_othersBehind_5 : decode cX10_othersBehind 5 = .ok (.iload_n 3, 1) := by decide +kernel
theorem dX10_othersBehind_6 : decode cX10_othersBehind 6 = .ok (.aload_n 0, 1) := by decide +kernel
theorem dX10_othersBehind_7 : decode cX10_othersBehind 7 = .ok (.iconst 1, 1) := by decide +kernel
theorem dX10_othersBehind_8 : decode cX10_othersBehind 8 = .ok (.aload_n 0, 1) := by decide +kernel
theorem dX10_othersBehind_9 : decode cX10_othersBehind 9 = .ok (.getfield 7, 3) := by decide +kernel
theorem dX10_othersBehind_12 : decode cX10_othersBehind 12 = .ok (.iconst 5, 1) := by decide +kernel
theorem dX10_othersBehind_13 : decode cX10_othersBehind 13 = .ok (.iaload, 1) := by decide +kernel
theorem dX10_othersBehind_14 : decode cX10_othersBehind 14 = .ok (.isub, 1) := by decide +kernel
theorem dX10_othersBehind_15 : decode cX10_othersBehind 15 = .ok (.invokevirtual 50, 3) := by decide +kernel
theorem dX10_othersBehind_18 : decode cX10_othersBehind 18 = .ok (.if_icmp .gt 38, 3) := by decide +kernel
theorem dX10_othersBehind_21 : decode cX10_othersBehind 21 = .ok (.aload_n 0, 1) := by decide +kernel
theorem dX10_othersBehind_22 : decode cX10_othersBehind 22 = .ok (.iconst 1, 1) := by decide +kernel
theorem dX10_othersBehind_23 : decode cX10_othersBehind 23 = .ok (.aload_n 0, 1) := by decide +kernel
theorem dX10_othersBehind_24 : decode cX10_othersBehind 24 = .ok (.getfield 7, 3) := by decide +kernel
theorem dX10_othersBehind_27 : decode cX10_othersBehind 27 = .ok (.iconst 5, 1) := by decide +kernel
theorem dX10_othersBehind_28 : decode cX10_othersBehind 28 = .ok (.iaload, 1) := by decide +kernel
theorem dX10_othersBehind_29 : decode cX10_othersBehind 29 = .ok (.isub, 1) := by decide +kernel
theorem dX10_othersBehind_30 : decode cX10_othersBehind 30 = .ok (.iload_n 1, 1) := by decide +kernel
theorem dX10_othersBehind_31 : decode cX10_othersBehind 31 = .ok (.iload_n 3, 1) := by decide +kernel
theorem dX10_othersBehind_32 : decode cX10_othersBehind 32 = .ok (.invokevirtual 140, 3) := by decide +kernel
theorem dX10_othersBehind_35 : decode cX10_othersBehind 35 = .ok (.istore 4, 2) := by decide +kernel
theorem dX10_othersBehind_37 : decode cX10_othersBehind 37 = .ok (.iload 4, 2) := by decide +kernel
theorem dX10_othersBehind_39 : decode cX10_othersBehind 39 = .ok (.iload_n 2, 1) := by decide +kernel
theorem dX10_othersBehind_40 : decode cX10_othersBehind 40 = .ok (.if_icmp .ge 8, 3) := by decide +kernel
theorem dX10_othersBehind_43 : decode cX10_othersBehind 43 = .ok (.iload 4, 2) := by decide +kernel
theorem dX10_othersBehind_45 : decode cX10_othersBehind 45 = .ok (.goto 4, 3) := by decide +kernel
theorem dX10_othersBehind_48 : decode cX10_othersBehind 48 = .ok (.iload_n 2, 1) := by decide +kernel
theorem dX10_othersBehind_49 : decode cX10_othersBehind 49 = .ok (.istore_n 2, 1) := by decide +kernel
theorem dX10_othersBehind_50 : decode cX10_othersBehind 50 = .ok (.iinc 3 1, 3) := by decide +kernel
theorem dX10_othersBehind_53 : decode cX10_othersBehind 53 = .ok (.goto (-48), 3) := by decide +kernel
theorem dX10_othersBehind_56 : decode cX10_othersBehind 56 = .ok (.iload_n 2, 1) := by decide +kernel
theorem dX10_othersBehind_57 : decode cX10_othersBehind 57 = .ok (.ireturn, 1) := by decide +kernel
theorem dX10_bestBid_0 : decode cX10_bestBid 0 = .ok (.aload_n 0, 1) := by decide +kernel
theorem dX10_bestBid_1 : decode cX10_bestBid 1 = .ok (.invokevirtual 46, 3) := by decide +kernel
theorem dX10_bestBid_4 : decode cX10_bestBid 4 = .ok (.ifCond .eq 7, 3) := by decide +kernel
theorem dX10_bestBid_7 : decode cX10_bestBid 7 = .ok (.sipush (-1005), 3) := by decide +kernel
theorem dX10_bestBid_10 : decode cX10_bestBid 10 = .ok (.ireturn, 1) := by decide +kernel
theorem dX10_bestBid_11 : decode cX10_bestBid 11 = .ok (.aload_n 0, 1) := by decide +kernel
theorem dX10_bestBid_12 : decode cX10_bestBid 12 = .ok (.aload_n 0, 1) := by decide +kernel
theorem dX10_bestBid_13 : decode cX10_bestBid 13 = .ok (.getfield 7, 3) := by decide +kernel
theorem dX10_bestBid_16 : decode cX10_bestBid 16 = .ok (.bipush 7, 2) := by decide +kernel
theorem dX10_bestBid_18 : decode cX10_bestBid 18 = .ok (.iaload, 1) := by decide +kernel
theorem dX10_bestBid_19 : decode cX10_bestBid 19 = .ok (.aload_n 0, 1) := by decide +kernel
theorem dX10_bestBid_20 : decode cX10_bestBid 20 = .ok (.getfield 7, 3) := by decide +kernel
theorem dX10_bestBid_23 : decode cX10_bestBid 23 = .ok (.bipush 8, 2) := by decide +kernel
theorem dX10_bestBid_25 : decode cX10_bestBid 25 = .ok (.iaload, 1) := by decide +kernel
theorem dX10_bestBid_26 : decode cX10_bestBid 26 = .ok (.iadd, 1) := by decide +kernel
theorem dX10_bestBid_27 : decode cX10_bestBid 27 = .ok (.invokevirtual 86, 3) := by decide +kernel
theorem dX10_bestBid_30 : decode cX10_bestBid 30 = .ok (.iconst 0, 1) := by decide +kernel
theorem dX10_bestBid_31 : decode cX10_bestBid 31 = .ok (.istore_n 1, 1) := by decide +kernel
theorem dX10_bestBid_32 : decode cX10_bestBid 32 = .ok (.aload_n 0, 1) := by decide +kernel
theorem dX10_bestBid_33 : decode cX10_bestBid 33 = .ok (.iconst 0, 1) := by decide +kernel
theorem dX10_bestBid_34 : decode cX10_bestBid 34 = .ok (.invokevirtual 143, 3) := by decide +kernel
theorem dX10_bestBid_37 : decode cX10_bestBid 37 = .ok (.istore_n 2, 1) := by decide +kernel
theorem dX10_bestBid_38 : decode cX10_bestBid 38 = .ok (.iconst 0, 1) := by decide +kernel
theorem dX10_bestBid_39 : decode cX10_bestBid 39 = .ok (.istore_n 3, 1) := by decide +kernel
theorem dX10_bestBid_40 : decode cX10_bestBid 40 = .ok (.aload_n 0, 1) := by decide +kernel
theorem dX10_bestBid_41 : decode cX10_bestBid 41 = .ok (.iconst 0, 1) := by decide +kernel
theorem dX10_bestBid_42 : decode cX10_bestBid 42 = .ok (.invokevirtual 146, 3) := by decide +kernel
theorem dX10_bestBid_45 : decode cX10_bestBid 45 = .ok (.istore 4, 2) := by decide +kernel
theorem dX10_bestBid_47 : decode cX10_bestBid 47 = .ok (.iconst 1, 1) := by decide +kernel
theorem dX10_bestBid_48 : decode cX10_bestBid 48 = .ok (.istore 5, 2) := by decide +kernel
theorem dX10_bestBid_50 : decode cX10_bestBid 50 = .ok (.iload 5, 2) := by decide +kernel
theorem dX10_bestBid_52 : decode cX10_bestBid 52 = .ok (.aload_n 0, 1) := by decide +kernel
theorem dX10_bestBid_53 : decode cX10_bestBid 53 = .ok (.aload_n 0, 1) := by decide +kernel
theorem dX10_bestBid_54 : decode cX10_bestBid 54 = .ok (.getfield 7, 3) := by decide +kernel
theorem dX10_bestBid_57 : decode cX10_bestBid 57 = .ok (.iconst 5, 1) := by decide +kernel
theorem dX10_bestBid_58 : decode cX10_bestBid 58 = .ok (.iaload, 1) := by decide +kernel
theorem dX10_bestBid_59 : decode cX10_bestBid 59 = .ok (.invokevirtual 50, 3) := by decide +kernel
theorem dX10_bestBid_62 : decode cX10_bestBid 62 = .ok (.if_icmp .gt 81, 3) := by decide +kernel
theorem dX10_bestBid_65 : decode cX10_bestBid 65 = .ok (.aload_n 0, 1) := by decide +kernel
theorem dX10_bestBid_66 : decode cX10_bestBid 66 = .ok (.iload 5, 2) := by decide +kernel
theorem dX10_bestBid_68 : decode cX10_bestBid 68 = .ok (.invokevirtual 143, 3) := by decide +kernel
theorem dX10_bestBid_71 : decode cX10_bestBid 71 = .ok (.istore 6, 2) := by decide +kernel
theorem dX10_bestBid_73 : decode cX10_bestBid 73 = .ok (.aload_n 0, 1) := by decide +kernel
theorem dX10_bestBid_74 : decode cX10_bestBid 74 = .ok (.iload 5, 2) := by decide +kernel
theorem dX10_bestBid_76 : decode cX10_bestBid 76 = .ok (.invokevirtual 146, 3) := by decide +kernel
theorem dX10_bestBid_79 : decode cX10_bestBid 79 = .ok (.istore 7, 2) := by decide +kernel
theorem dX10_bestBid_81 : decode cX10_bestBid 81 = .ok (.iload 6, 2) := by decide +kernel
theorem dX10_bestBid_83 : decode cX10_bestBid 83 = .ok (.iload_n 2, 1) := by decide +kernel
theorem dX10_bestBid_84 : decode cX10_bestBid 84 = .ok (.if_icmp .ge 8, 3) := by decide +kernel
theorem dX10_bestBid_87 : decode cX10_bestBid 87 = .ok (.iload 5, 2) := by decide +kernel
theorem dX10_bestBid_89 : decode cX10_bestBid 89 = .ok (.goto 4, 3) := by decide +kernel
theorem dX10_bestBid_92 : decode cX10_bestBid 92 = .ok (.iload_n 1, 1) := by decide +kernel
theorem dX10_bestBid_93 : decode cX10_bestBid 93 = .ok (.istore_n 1, 1) := by decide +kernel
theorem dX10_bestBid_94 : decode cX10_bestBid 94 = .ok (.iload 6, 2) := by decide +kernel
theorem dX10_bestBid_96 : decode cX10_bestBid 96 = .ok (.iload_n 2, 1) := by decide +kernel
theorem dX10_bestBid_97 : decode cX10_bestBid 97 = .ok (.if_icmp .ge 8, 3) := by decide +kernel
theorem dX10_bestBid_100 : decode cX10_bestBid 100 = .ok (.iload 6, 2) := by decide +kernel
theorem dX10_bestBid_102 : decode cX10_bestBid 102 = .ok (.goto 4, 3) := by decide +kernel
theorem dX10_bestBid_105 : decode cX10_bestBid 105 = .ok (.iload_n 2, 1) := by decide +kernel
theorem dX10_bestBid_106 : decode cX10_bestBid 106 = .ok (.istore_n 2, 1) := by decide +kernel
theorem dX10_bestBid_107 : decode cX10_bestBid 107 = .ok (.iload 7, 2) := by decide +kernel
theorem dX10_bestBid_109 : decode cX10_bestBid 109 = .ok (.iload 4, 2) := by decide +kernel
theorem dX10_bestBid_111 : decode cX10_bestBid 111 = .ok (.if_icmp .le 8, 3) := by decide +kernel
theorem dX10_bestBid_114 : decode cX10_bestBid 114 = .ok (.iload 5, 2) := by decide +kernel
theorem dX10_bestBid_116 : decode cX10_bestBid 116 = .ok (.goto 4, 3) := by decide +kernel
theorem dX10_bestBid_119 : decode cX10_bestBid 119 = .ok (.iload_n 3, 1) := by decide +kernel
theorem dX10_bestBid_120 : decode cX10_bestBid 120 = .ok (.istore_n 3, 1) := by decide +kernel
theorem dX10_bestBid_121 : decode cX10_bestBid 121 = .ok (.iload 7, 2) := by decide +kernel
theorem dX10_bestBid_123 : decode cX10_bestBid 123 = .ok (.iload 4, 2) := by decide +kernel
theorem dX10_bestBid_125 : decode cX10_bestBid 125 = .ok (.if_icmp .le 8, 3) := by decide +kernel
theorem dX10_bestBid_128 : decode cX10_bestBid 128 = .ok (.iload 7, 2) := by decide +kernel
theorem dX10_bestBid_130 : decode cX10_bestBid 130 = .ok (.goto 5, 3) := by decide +kernel
theorem dX10_bestBid_133 : decode cX10_bestBid 133 = .ok (.iload 4, 2) := by decide +kernel
theorem dX10_bestBid_135 : decode cX10_bestBid 135 = .ok (.istore 4, 2) := by decide +kernel
theorem dX10_bestBid_137 : decode cX10_bestBid 137 = .ok (.iinc 5 1, 3) := by decide +kernel
theorem dX10_bestBid_140 : decode cX10_bestBid 140 = .ok (.goto (-90), 3) := by decide +kernel
theorem dX10_bestBid_143 : decode cX10_bestBid 143 = .ok (.iload_n 2, 1) := by decide +kernel
theorem dX10_bestBid_144 : decode cX10_bestBid 144 = .ok (.bipush 99, 2) := by decide +kernel
theorem dX10_bestBid_146 : decode cX10_bestBid 146 = .ok (.if_icmp .ne 7, 3) := by decide +kernel
theorem dX10_bestBid_149 : decode cX10_bestBid 149 = .ok (.iload_n 3, 1) := by decide +kernel
theorem dX10_bestBid_150 : decode cX10_bestBid 150 = .ok (.goto 4, 3) := by decide +kernel
theorem dX10_bestBid_153 : decode cX10_bestBid 153 = .ok (.iload_n 1, 1) := by decide +kernel
theorem dX10_bestBid_154 : decode cX10_bestBid 154 = .ok (.ireturn, 1) := by decide +kernel
theorem dX10_bestAnswer_0 : decode cX10_bestAnswer 0 = .ok (.iload_n 1, 1) := by decide +kernel
theorem dX10_bestAnswer_1 : decode cX10_bestAnswer 1 = .ok (.i2l, 1) := by decide +kernel
theorem dX10_bestAnswer_2 : decode cX10_bestAnswer 2 = .ok (.lconst 0, 1) := by decide +kernel
theorem dX10_bestAnswer_3 : decode cX10_bestAnswer 3 = .ok (.ldc2_w 110, 3) := by decide +kernel
theorem dX10_bestAnswer_6 : decode cX10_bestAnswer 6 = .ok (.invokestatic 95, 3) := by decide +kernel
theorem dX10_bestAnswer_9 : decode cX10_bestAnswer 9 = .ok (.ifCond .ne 7, 3) := by decide +kernel
theorem dX10_bestAnswer_12 : decode cX10_bestAnswer 12 = .ok (.sipush (-1002), 3) := by decide +kernel
theorem dX10_bestAnswer_15 : decode cX10_bestAnswer 15 = .ok (.ireturn, 1) := by decide +kernel
theorem dX10_bestAnswer_16 : decode cX10_bestAnswer 16 = .ok (.aload_n 0, 1) := by decide +kernel
theorem dX10_bestAnswer_17 : decode cX10_bestAnswer 17 = .ok (.iload_n 1, 1) := by decide +kernel
theorem dX10_bestAnswer_18 : decode cX10_bestAnswer 18 = .ok (.iconst 0, 1) := by decide +kernel
theorem dX10_bestAnswer_19 : decode cX10_bestAnswer 19 = .ok (.invokevirtual 112, 3) := by decide +kernel
theorem dX10_bestAnswer_22 : decode cX10_bestAnswer 22 = .ok (.ifCond .eq 11, 3) := by decide +kernel
theorem dX10_bestAnswer_25 : decode cX10_bestAnswer 25 = .ok (.aload_n 0, 1) := by decide +kernel
theorem dX10_bestAnswer_26 : decode cX10_bestAnswer 26 = .ok (.iload_n 1, 1) := by decide +kernel
theorem dX10_bestAnswer_27 : decode cX10_bestAnswer 27 = .ok (.invokevirtual 122, 3) := by decide +kernel
theorem dX10_bestAnswer_30 : decode cX10_bestAnswer 30 = .ok (.goto 6, 3) := by decide +kernel
theorem dX10_bestAnswer_33 : decode cX10_bestAnswer 33 = .ok (.sipush (-1005), 3) := by decide +kernel
theorem dX10_bestAnswer_36 : decode cX10_bestAnswer 36 = .ok (.ireturn, 1) := by decide +kernel
theorem dX10_answerTo_0 : decode cX10_answerTo 0 = .ok (.aload_n 0, 1) := by decide +kernel
theorem dX10_answerTo_1 : decode cX10_answerTo 1 = .ok (.aload_n 0, 1) := by decide +kernel
theorem dX10_answerTo_2 : decode cX10_answerTo 2 = .ok (.getfield 7, 3) := by decide +kernel
theorem dX10_answerTo_5 : decode cX10_answerTo 5 = .ok (.bipush 7, 2) := by decide +kernel
theorem dX10_answerTo_7 : decode cX10_answerTo 7 = .ok (.iaload, 1) := by decide +kernel
theorem dX10_answerTo_8 : decode cX10_answerTo 8 = .ok (.aload_n 0, 1) := by decide +kernel
theorem dX10_answerTo_9 : decode cX10_answerTo 9 = .ok (.getfield 7, 3) := by decide +kernel
theorem dX10_answerTo_12 : decode cX10_answerTo 12 = .ok (.bipush 8, 2) := by decide +kernel
theorem dX10_answerTo_14 : decode cX10_answerTo 14 = .ok (.iaload, 1) := by decide +kernel
theorem dX10_answerTo_15 : decode cX10_answerTo 15 = .ok (.iadd, 1) := by decide +kernel
theorem dX10_answerTo_16 : decode cX10_answerTo 16 = .ok (.invokevirtual 86, 3) := by decide +kernel
theorem dX10_answerTo_19 : decode cX10_answerTo 19 = .ok (.iconst 0, 1) := by decide +kernel
theorem dX10_answerTo_20 : decode cX10_answerTo 20 = .ok (.istore_n 2, 1) := by decide +kernel
theorem dX10_answerTo_21 : decode cX10_answerTo 21 = .ok (.aload_n 0, 1) := by decide +kernel
theorem dX10_answerTo_22 : decode cX10_answerTo 22 = .ok (.iconst 1, 1) := by decide +kernel
theorem dX10_answerTo_23 : decode cX10_answerTo 23 = .ok (.aload_n 0, 1) := by decide +kernel
theorem dX10_answerTo_24 : decode cX10_answerTo 24 = .ok (.getfield 7, 3) := by decide +kernel
theorem dX10_answerTo_27 : decode cX10_answerTo 27 = .ok (.iconst 5, 1) := by decide +kernel
theorem dX10_answerTo_28 : decode cX10_answerTo 28 = .ok (.iaload, 1) := by decide +kernel
theorem dX10_answerTo_29 : decode cX10_answerTo 29 = .ok (.isub, 1) := by decide +kernel
theorem dX10_answerTo_30 : decode cX10_answerTo 30 = .ok (.iload_n 1, 1) := by decide +kernel
theorem dX10_answerTo_31 : decode cX10_answerTo 31 = .ok (.iconst 0, 1) := by decide +kernel
theorem dX10_answerTo_32 : decode cX10_answerTo 32 = .ok (.invokevirtual 140, 3) := by decide +kernel
theorem dX10_answerTo_35 : decode cX10_answerTo 35 = .ok (.istore_n 3, 1) := by decide +kernel
theorem dX10_answerTo_36 : decode cX10_answerTo 36 = .ok (.iconst 0, 1) := by decide +kernel
theorem dX10_answerTo_37 : decode cX10_answerTo 37 = .ok (.istore 4, 2) := by decide +kernel
theorem dX10_answerTo_39 : decode cX10_answerTo 39 = .ok (.aload_n 0, 1) := by decide +kernel
theorem dX10_answerTo_40 : decode cX10_answerTo 40 = .ok (.aload_n 0, 1) := by decide +kernel
theorem dX10_answerTo_41 : decode cX10_answerTo 41 = .ok (.getfield 7, 3) := by decide +kernel
theorem dX10_answerTo_44 : decode cX10_answerTo 44 = .ok (.iconst 5, 1) := by decide +kernel
theorem dX10_answerTo_45 : decode cX10_answerTo 45 = .ok (.iaload, 1) := by decide +kernel
theorem dX10_answerTo_46 : decode cX10_answerTo 46 = .ok (.iload_n 1, 1) := by decide +kernel
theorem dX10_answerTo_47 : decode cX10_answerTo 47 = .ok (.iconst 0, 1) := by decide +kernel
theorem dX10_answerTo_48 : decode cX10_answerTo 48 = .ok (.invokevirtual 140, 3) := by decide +kernel
theorem dX10_answerTo_51 : decode cX10_answerTo 51 = .ok (.istore 5, 2) := by decide +kernel
theorem dX10_answerTo_53 : decode cX10_answerTo 53 = .ok (.iconst 1, 1) := by decide +kernel
theorem dX10_answerTo_54 : decode cX10_answerTo 54 = .ok (.istore 6, 2) := by decide +kernel
theorem dX10_answerTo_56 : decode cX10_answerTo 56 = .ok (.iload 6, 2) := by decide +kernel
theorem dX10_answerTo_58 : decode cX10_answerTo 58 = .ok (.aload_n 0, 1) := by decide +kernel
theorem dX10_answerTo_59 : decode cX10_answerTo 59 = .ok (.iconst 1, 1) := by decide +kernel
theorem dX10_answerTo_60 : decode cX10_answerTo 60 = .ok (.aload_n 0, 1) := by decide +kernel
theorem dX10_answerTo_61 : decode cX10_answerTo 61 = .ok (.getfield 7, 3) := by decide +kernel
theorem dX10_answerTo_64 : decode cX10_answerTo 64 = .ok (.iconst 5, 1) := by decide +kernel
theorem dX10_answerTo_65 : decode cX10_answerTo 65 = .ok (.iaload, 1) := by decide +kernel
theorem dX10_answerTo_66 : decode cX10_answerTo 66 = .ok (.isub, 1) := by decide +kernel
theorem dX10_answerTo_67 : decode cX10_answerTo 67 = .ok (.invokevirtual 50, 3) := by decide +kernel
theorem dX10_answerTo_70 : decode cX10_answerTo 70 = .ok (.if_icmp .gt 99, 3) := by decide +kernel
theorem dX10_answerTo_73 : decode cX10_answerTo 73 = .ok (.aload_n 0, 1) := by decide +kernel
theorem dX10_answerTo_74 : decode cX10_answerTo 74 = .ok (.iconst 1, 1) := by decide +kernel
theorem dX10_answerTo_75 : decode cX10_answerTo 75 = .ok (.aload_n 0, 1) := by decide +kernel
theorem dX10_answerTo_76 : decode cX10_answerTo 76 = .ok (.getfield 7, 3) := by decide +kernel
theorem dX10_answerTo_79 : decode cX10_answerTo 79 = .ok (.iconst 5, 1) := by decide +kernel
theorem dX10_answerTo_80 : decode cX10_answerTo 80 = .ok (.iaload, 1) := by decide +kernel
theorem dX10_answerTo_81 : decode cX10_answerTo 81 = .ok (.isub, 1) := by decide +kernel
theorem dX10_answerTo_82 : decode cX10_answerTo 82 = .ok (.iload_n 1, 1) := by decide +kernel
theorem dX10_answerTo_83 : decode cX10_answerTo 83 = .ok (.iload 6, 2) := by decide +kernel
theorem dX10_answerTo_85 : decode cX10_answerTo 85 = .ok (.invokevirtual 140, 3) := by decide +kernel
theorem dX10_answerTo_88 : decode cX10_answerTo 88 = .ok (.istore 7, 2) := by decide +kernel
theorem dX10_answerTo_90 : decode cX10_answerTo 90 = .ok (.aload_n 0, 1) := by decide +kernel
theorem dX10_answerTo_91 : decode cX10_answerTo 91 = .ok (.aload_n 0, 1) := by decide +kernel
theorem dX10_answerTo_92 : decode cX10_answerTo 92 = .ok (.getfield 7, 3) := by decide +kernel
theorem dX10_answerTo_95 : decode cX10_answerTo 95 = .ok (.iconst 5, 1) := by decide +kernel
theorem dX10_answerTo_96 : decode cX10_answerTo 96 = .ok (.iaload, 1) := by decide +kernel
theorem dX10_answerTo_97 : decode cX10_answerTo 97 = .ok (.iload_n 1, 1) := by decide +kernel
theorem dX10_answerTo_98 : decode cX10_answerTo 98 = .ok (.iload 6, 2) := by decide +kernel
theorem dX10_answerTo_100 : decode cX10_answerTo 100 = .ok (.invokevirtual 140, 3) := by decide +kernel
theorem dX10_answerTo_103 : decode cX10_answerTo 103 = .ok (.istore 8, 2) := by decide +kernel
theorem dX10_answerTo_105 : decode cX10_answerTo 105 = .ok (.iload 7, 2) := by decide +kernel
theorem dX10_answerTo_107 : decode cX10_answerTo 107 = .ok (.iload_n 3, 1) := by decide +kernel
theorem dX10_answerTo_108 : decode cX10_answerTo 108 = .ok (.if_icmp .ge 8, 3) := by decide +kernel
theorem dX10_answerTo_111 : decode cX10_answerTo 111 = .ok (.iload 6, 2) := by decide +kernel
theorem dX10_answerTo_113 : decode cX10_answerTo 113 = .ok (.goto 4, 3) := by decide +kernel
theorem dX10_answerTo_116 : decode cX10_answerTo 116 = .ok (.iload_n 2, 1) := by decide +kernel
theorem dX10_answerTo_117 : decode cX10_answerTo 117 = .ok (.istore_n 2, 1) := by decide +kernel
theorem dX10_answerTo_118 : decode cX10_answerTo 118 = .ok (.iload 7, 2) := by decide +kernel
theorem dX10_answerTo_120 : decode cX10_answerTo 120 = .ok (.iload_n 3, 1) := by decide +kernel
theorem dX10_answerTo_121 : decode cX10_answerTo 121 = .ok (.if_icmp .ge 8, 3) := by decide +kernel
theorem dX10_answerTo_124 : decode cX10_answerTo 124 = .ok (.iload 7, 2) := by decide +kernel
theorem dX10_answerTo_126 : decode cX10_answerTo 126 = .ok (.goto 4, 3) := by decide +kernel
theorem dX10_answerTo_129 : decode cX10_answerTo 129 = .ok (.iload_n 3, 1) := by decide +kernel
theorem dX10_answerTo_130 : decode cX10_answerTo 130 = .ok (.istore_n 3, 1) := by decide +kernel
theorem dX10_answerTo_131 : decode cX10_answerTo 131 = .ok (.iload 8, 2) := by decide +kernel
theorem dX10_answerTo_133 : decode cX10_answerTo 133 = .ok (.iload 5, 2) := by decide +kernel
theorem dX10_answerTo_135 : decode cX10_answerTo 135 = .ok (.if_icmp .le 8, 3) := by decide +kernel
theorem dX10_answerTo_138 : decode cX10_answerTo 138 = .ok (.iload 6, 2) := by decide +kernel
theorem dX10_answerTo_140 : decode cX10_answerTo 140 = .ok (.goto 5, 3) := by decide +kernel
theorem dX10_answerTo_143 : decode cX10_answerTo 143 = .ok (.iload 4, 2) := by decide +kernel
theorem dX10_answerTo_145 : decode cX10_answerTo 145 = .ok (.istore 4, 2) := by decide +kernel
theorem dX10_answerTo_147 : decode cX10_answerTo 147 = .ok (.iload 8, 2) := by decide +kernel
theorem dX10_answerTo_149 : decode cX10_answerTo 149 = .ok (.iload 5, 2) := by decide +kernel
theorem dX10_answerTo_151 : decode cX10_answerTo 151 = .ok (.if_icmp .le 8, 3) := by decide +kernel
theorem dX10_answerTo_154 : decode cX10_answerTo 154 = .ok (.iload 8, 2) := by decide +kernel
theorem dX10_answerTo_156 : decode cX10_answerTo 156 = .ok (.goto 5, 3) := by decide +kernel
theorem dX10_answerTo_159 : decode cX10_answerTo 159 = .ok (.iload 5, 2) := by decide +kernel
theorem dX10_answerTo_161 : decode cX10_answerTo 161 = .ok (.istore 5, 2) := by decide +kernel
theorem dX10_answerTo_163 : decode cX10_answerTo 163 = .ok (.iinc 6 1, 3) := by decide +kernel
theorem dX10_answerTo_166 : decode cX10_answerTo 166 = .ok (.goto (-110), 3) := by decide +kernel
theorem dX10_answerTo_169 : decode cX10_answerTo 169 = .ok (.iload_n 3, 1) := by decide +kernel
theorem dX10_answerTo_170 : decode cX10_answerTo 170 = .ok (.bipush 99, 2) := by decide +kernel
theorem dX10_answerTo_172 : decode cX10_answerTo 172 = .ok (.if_icmp .ne 8, 3) := by decide +kernel
theorem dX10_answerTo_175 : decode cX10_answerTo 175 = .ok (.iload 4, 2) := by decide +kernel
theorem dX10_answerTo_177 : decode cX10_answerTo 177 = .ok (.goto 4, 3) := by decide +kernel
theorem dX10_answerTo_180 : decode cX10_answerTo 180 = .ok (.iload_n 2, 1) := by decide +kernel
theorem dX10_answerTo_181 : decode cX10_answerTo 181 = .ok (.ireturn, 1) := by decide +kernel
theorem dX10_keeps_0 : decode cX10_keeps 0 = .ok (.aload_n 0, 1) := by decide +kernel
theorem dX10_keeps_1 : decode cX10_keeps 1 = .ok (.invokevirtual 46, 3) := by decide +kernel
theorem dX10_keeps_4 : decode cX10_keeps 4 = .ok (.ifCond .eq 7, 3) := by decide +kernel
theorem dX10_keeps_7 : decode cX10_keeps 7 = .ok (.sipush (-1005), 3) := by decide +kernel
theorem dX10_keeps_10 : decode cX10_keeps 10 = .ok (.ireturn, 1) := by decide +kernel
theorem dX10_keeps_11 : decode cX10_keeps 11 = .ok (.aload_n 0, 1) := by decide +kernel
theorem dX10_keeps_12 : decode cX10_keeps 12 = .ok (.aload_n 0, 1) := by decide +kernel
theorem dX10_keeps_13 : decode cX10_keeps 13 = .ok (.getfield 7, 3) := by decide +kernel
theorem dX10_keeps_16 : decode cX10_keeps 16 = .ok (.bipush 7, 2) := by decide +kernel
theorem dX10_keeps_18 : decode cX10_keeps 18 = .ok (.iaload, 1) := by decide +kernel
theorem dX10_keeps_19 : decode cX10_keeps 19 = .ok (.aload_n 0, 1) := by decide +kernel
theorem dX10_keeps_20 : decode cX10_keeps 20 = .ok (.getfield 7, 3) := by decide +kernel
theorem dX10_keeps_23 : decode cX10_keeps 23 = .ok (.bipush 8, 2) := by decide +kernel
theorem dX10_keeps_25 : decode cX10_keeps 25 = .ok (.iaload, 1) := by decide +kernel
theorem dX10_keeps_26 : decode cX10_keeps 26 = .ok (.iadd, 1) := by decide +kernel
theorem dX10_keeps_27 : decode cX10_keeps 27 = .ok (.invokevirtual 86, 3) := by decide +kernel
theorem dX10_keeps_30 : decode cX10_keeps 30 = .ok (.iconst 0, 1) := by decide +kernel
theorem dX10_keeps_31 : decode cX10_keeps 31 = .ok (.istore_n 1, 1) := by decide +kernel
theorem dX10_keeps_32 : decode cX10_keeps 32 = .ok (.iconst 0, 1) := by decide +kernel
theorem dX10_keeps_33 : decode cX10_keeps 33 = .ok (.istore_n 2, 1) := by decide +kernel
theorem dX10_keeps_34 : decode cX10_keeps 34 = .ok (.iload_n 2, 1) := by decide +kernel
theorem dX10_keeps_35 : decode cX10_keeps 35 = .ok (.aload_n 0, 1) := by decide +kernel
theorem dX10_keeps_36 : decode cX10_keeps 36 = .ok (.aload_n 0, 1) := by decide +kernel
theorem dX10_keeps_37 : decode cX10_keeps 37 = .ok (.getfield 7, 3) := by decide +kernel
theorem dX10_keeps_40 : decode cX10_keeps 40 = .ok (.iconst 5, 1) := by decide +kernel
theorem dX10_keeps_41 : decode cX10_keeps 41 = .ok (.iaload, 1) := by decide +kernel
theorem dX10_keeps_42 : decode cX10_keeps 42 = .ok (.invokevirtual 50, 3) := by decide +kernel
theorem dX10_keeps_45 : decode cX10_keeps 45 = .ok (.if_icmp .gt 27, 3) := by decide +kernel
theorem dX10_keeps_48 : decode cX10_keeps 48 = .ok (.iload_n 1, 1) := by decide +kernel
theorem dX10_keeps_49 : decode cX10_keeps 49 = .ok (.aload_n 0, 1) := by decide +kernel
theorem dX10_keeps_50 : decode cX10_keeps 50 = .ok (.iload_n 2, 1) := by decide +kernel
theorem dX10_keeps_51 : decode cX10_keeps 51 = .ok (.invokevirtual 143, 3) := by decide +kernel
theorem dX10_keeps_54 : decode cX10_keeps 54 = .ok (.bipush 99, 2) := by decide +kernel
theorem dX10_keeps_56 : decode cX10_keeps 56 = .ok (.if_icmp .ne 7, 3) := by decide +kernel
theorem dX10_keeps_59 : decode cX10_keeps 59 = .ok (.iconst 0, 1) := by decide +kernel
theorem dX10_keeps_60 : decode cX10_keeps 60 = .ok (.goto 4, 3) := by decide +kernel
theorem dX10_keeps_63 : decode cX10_keeps 63 = .ok (.iconst 1, 1) := by decide +kernel
theorem dX10_keeps_64 : decode cX10_keeps 64 = .ok (.iadd, 1) := by decide +kernel
theorem dX10_keeps_65 : decode cX10_keeps 65 = .ok (.istore_n 1, 1) := by decide +kernel
theorem dX10_keeps_66 : decode cX10_keeps 66 = .ok (.iinc 2 1, 3) := by decide +kernel
theorem dX10_keeps_69 : decode cX10_keeps 69 = .ok (.goto (-35), 3) := by decide +kernel
theorem dX10_keeps_72 : decode cX10_keeps 72 = .ok (.iload_n 1, 1) := by decide +kernel
theorem dX10_keeps_73 : decode cX10_keeps 73 = .ok (.ireturn, 1) := by decide +kernel
theorem dX10_leastHours_0 : decode cX10_leastHours 0 = .ok (.iload_n 1, 1) := by decide +kernel
theorem dX10_leastHours_1 : decode cX10_leastHours 1 = .ok (.invokestatic 125, 3) := by decide +kernel
theorem dX10_leastHours_4 : decode cX10_leastHours 4 = .ok (.ifCond .ne 7, 3) := by decide +kernel
theorem dX10_leastHours_7 : decode cX10_leastHours 7 = .ok (.sipush (-1001), 3) := by decide +kernel
theorem dX10_leastHours_10 : decode cX10_leastHours 10 = .ok (.ireturn, 1) := by decide +kernel
theorem dX10_leastHours_11 : decode cX10_leastHours 11 = .ok (.aload_n 0, 1) := by decide +kernel
theorem dX10_leastHours_12 : decode cX10_leastHours 12 = .ok (.invokevirtual 46, 3) := by decide +kernel
theorem dX10_leastHours_15 : decode cX10_leastHours 15 = .ok (.ifCond .eq 7, 3) := by decide +kernel
theorem dX10_leastHours_18 : decode cX10_leastHours 18 = .ok (.sipush (-1005), 3) := by decide +kernel
theorem dX10_leastHours_21 : decode cX10_leastHours 21 = .ok (.ireturn, 1) := by decide +kernel
theorem dX10_leastHours_22 : decode cX10_leastHours 22 = .ok (.iconst 0, 1) := by decide +kernel
theorem dX10_leastHours_23 : decode cX10_leastHours 23 = .ok (.istore_n 2, 1) := by decide +kernel
theorem dX10_leastHours_24 : decode cX10_leastHours 24 = .ok (.iload_n 2, 1) := by decide +kernel
theorem dX10_leastHours_25 : decode cX10_leastHours 25 = .ok (.bipush 6, 2) := by decide +kernel
theorem dX10_leastHours_27 : decode cX10_leastHours 27 = .ok (.if_icmp .gt 58, 3) := by decide +kernel
theorem dX10_leastHours_30 : decode cX10_leastHours 30 = .ok (.iload_n 1, 1) := by decide +kernel
theorem dX10_leastHours_31 : decode cX10_leastHours 31 = .ok (.ifCond .ne 7, 3) := by decide +kernel
theorem dX10_leastHours_34 : decode cX10_leastHours 34 = .ok (.iload_n 2, 1) := by decide +kernel
theorem dX10_leastHours_35 : decode cX10_leastHours 35 = .ok (.goto 10, 3) := by decide +kernel
theorem dX10_leastHours_38 : decode cX10_leastHours 38 = .ok (.aload_n 0, 1) := by decide +kernel
theorem dX10_leastHours_39 : decode cX10_leastHours 39 = .ok (.getfield 7, 3) := by decide +kernel
theorem dX10_leastHours_42 : decode cX10_leastHours 42 = .ok (.bipush 7, 2) := by decide +kernel
theorem dX10_leastHours_44 : decode cX10_leastHours 44 = .ok (.iaload, 1) := by decide +kernel
theorem dX10_leastHours_45 : decode cX10_leastHours 45 = .ok (.istore_n 3, 1) := by decide +kernel
theorem dX10_leastHours_46 : decode cX10_leastHours 46 = .ok (.iload_n 1, 1) := by decide +kernel
theorem dX10_leastHours_47 : decode cX10_leastHours 47 = .ok (.iconst 1, 1) := by decide +kernel
theorem dX10_leastHours_48 : decode cX10_leastHours 48 = .ok (.if_icmp .ne 7, 3) := by decide +kernel
theorem dX10_leastHours_51 : decode cX10_leastHours 51 = .ok (.iload_n 2, 1) := by decide +kernel
theorem dX10_leastHours_52 : decode cX10_leastHours 52 = .ok (.goto 10, 3) := by decide +kernel
theorem dX10_leastHours_55 : decode cX10_leastHours 55 = .ok (.aload_n 0, 1) := by decide +kernel
theorem dX10_leastHours_56 : decode cX10_leastHours 56 = .ok (.getfield 7, 3) := by decide +kernel
theorem dX10_leastHours_59 : decode cX10_leastHours 59 = .ok (.bipush 8, 2) := by decide +kernel
theorem dX10_leastHours_61 : decode cX10_leastHours 61 = .ok (.iaload, 1) := by decide +kernel
theorem dX10_leastHours_62 : decode cX10_leastHours 62 = .ok (.istore 4, 2) := by decide +kernel
theorem dX10_leastHours_64 : decode cX10_leastHours 64 = .ok (.aload_n 0, 1) := by decide +kernel
theorem dX10_leastHours_65 : decode cX10_leastHours 65 = .ok (.iload_n 1, 1) := by decide +kernel
theorem dX10_leastHours_66 : decode cX10_leastHours 66 = .ok (.iload_n 3, 1) := by decide +kernel
theorem dX10_leastHours_67 : decode cX10_leastHours 67 = .ok (.iload 4, 2) := by decide +kernel
theorem dX10_leastHours_69 : decode cX10_leastHours 69 = .ok (.invokevirtual 90, 3) := by decide +kernel
theorem dX10_leastHours_72 : decode cX10_leastHours 72 = .ok (.bipush 99, 2) := by decide +kernel
theorem dX10_leastHours_74 : decode cX10_leastHours 74 = .ok (.if_icmp .eq 5, 3) := by decide +kernel
theorem dX10_leastHours_77 : decode cX10_leastHours 77 = .ok (.iload_n 2, 1) := by decide +kernel
theorem dX10_leastHours_78 : decode cX10_leastHours 78 = .ok (.ireturn, 1) := by decide +kernel
theorem dX10_leastHours_79 : decode cX10_leastHours 79 = .ok (.iinc 2 1, 3) := by decide +kernel
theorem dX10_leastHours_82 : decode cX10_leastHours 82 = .ok (.goto (-58), 3) := by decide +kernel
theorem dX10_leastHours_85 : decode cX10_leastHours 85 = .ok (.sipush (-1006), 3) := by decide +kernel
theorem dX10_leastHours_88 : decode cX10_leastHours 88 = .ok (.ireturn, 1) := by decide +kernel
theorem dX10_charactersOf_0 : decode cX10_charactersOf 0 = .ok (.lload_n 0, 1) := by decide +kernel
theorem dX10_charactersOf_1 : decode cX10_charactersOf 1 = .ok (.lstore_n 2, 1) := by decide +kernel
theorem dX10_charactersOf_2 : decode cX10_charactersOf 2 = .ok (.iconst 0, 1) := by decide +kernel
theorem dX10_charactersOf_3 : decode cX10_charactersOf 3 = .ok (.istore 4, 2) := by decide +kernel
theorem dX10_charactersOf_5 : decode cX10_charactersOf 5 = .ok (.iload 4, 2) := by decide +kernel
theorem dX10_charactersOf_7 : decode cX10_charactersOf 7 = .ok (.bipush 8, 2) := by decide +kernel
theorem dX10_charactersOf_9 : decode cX10_charactersOf 9 = .ok (.if_icmp .ge 31, 3) := by decide +kernel
theorem dX10_charactersOf_12 : decode cX10_charactersOf 12 = .ok (.lload_n 2, 1) := by decide +kernel
theorem dX10_charactersOf_13 : decode cX10_charactersOf 13 = .ok (.ldc2_w 149, 3) := by decide +kernel
theorem dX10_charactersOf_16 : decode cX10_charactersOf 16 = .ok (.land, 1) := by decide +kernel
theorem dX10_charactersOf_17 : decode cX10_charactersOf 17 = .ok (.ldc2_w 151, 3) := by decide +kernel
theorem dX10_charactersOf_20 : decode cX10_charactersOf 20 = .ok (.ldc2_w 153, 3) := by decide +kernel
theorem dX10_charactersOf_23 : decode cX10_charactersOf 23 = .ok (.invokestatic 95, 3) := by decide +kernel
theorem dX10_charactersOf_26 : decode cX10_charactersOf 26 = .ok (.ifCond .eq 14, 3) := by decide +kernel
theorem dX10_charactersOf_29 : decode cX10_charactersOf 29 = .ok (.lload_n 2, 1) := by decide +kernel
theorem dX10_charactersOf_30 : decode cX10_charactersOf 30 = .ok (.bipush 8, 2) := by decide +kernel
theorem dX10_charactersOf_32 : decode cX10_charactersOf 32 = .ok (.lushr, 1) := by decide +kernel
theorem dX10_charactersOf_33 : decode cX10_charactersOf 33 = .ok (.lstore_n 2, 1) := by decide +kernel
theorem dX10_charactersOf_34 : decode cX10_charactersOf 34 = .ok (.iinc 4 1, 3) := by decide +kernel
theorem dX10_charactersOf_37 : decode cX10_charactersOf 37 = .ok (.goto (-32), 3) := by decide +kernel
theorem dX10_charactersOf_40 : decode cX10_charactersOf 40 = .ok (.lload_n 2, 1) := by decide +kernel
theorem dX10_charactersOf_41 : decode cX10_charactersOf 41 = .ok (.lconst 0, 1) := by decide +kernel
theorem dX10_charactersOf_42 : decode cX10_charactersOf 42 = .ok (.lcmp, 1) := by decide +kernel
theorem dX10_charactersOf_43 : decode cX10_charactersOf 43 = .ok (.ifCond .ne 8, 3) := by decide +kernel
theorem dX10_charactersOf_46 : decode cX10_charactersOf 46 = .ok (.iload 4, 2) := by decide +kernel
theorem dX10_charactersOf_48 : decode cX10_charactersOf 48 = .ok (.goto 4, 3) := by decide +kernel
theorem dX10_charactersOf_51 : decode cX10_charactersOf 51 = .ok (.iconst 0, 1) := by decide +kernel
theorem dX10_charactersOf_52 : decode cX10_charactersOf 52 = .ok (.ireturn, 1) := by decide +kernel
theorem dX10_put_0 : decode cX10_put 0 = .ok (.lload_n 1, 1) := by decide +kernel
theorem dX10_put_1 : decode cX10_put 1 = .ok (.invokestatic 155, 3) := by decide +kernel
theorem dX10_put_4 : decode cX10_put 4 = .ok (.istore_n 3, 1) := by decide +kernel
theorem dX10_put_5 : decode cX10_put 5 = .ok (.iload_n 3, 1) := by decide +kernel
theorem dX10_put_6 : decode cX10_put 6 = .ok (.ifCond .ne 7, 3) := by decide +kernel
theorem dX10_put_9 : decode cX10_put 9 = .ok (.sipush (-1002), 3) := by decide +kernel
theorem dX10_put_12 : decode cX10_put 12 = .ok (.ireturn, 1) := by decide +kernel
theorem dX10_put_13 : decode cX10_put 13 = .ok (.aload_n 0, 1) := by decide +kernel
theorem dX10_put_14 : decode cX10_put 14 = .ok (.getfield 132, 3) := by decide +kernel
theorem dX10_put_17 : decode cX10_put 17 = .ok (.iload_n 3, 1) := by decide +kernel
theorem dX10_put_18 : decode cX10_put 18 = .ok (.iadd, 1) := by decide +kernel
theorem dX10_put_19 : decode cX10_put 19 = .ok (.bipush 60, 2) := by decide +kernel
theorem dX10_put_21 : decode cX10_put 21 = .ok (.if_icmp .le 7, 3) := by decide +kernel
theorem dX10_put_24 : decode cX10_put 24 = .ok (.sipush (-1004), 3) := by decide +kernel
theorem dX10_put_27 : decode cX10_put 27 = .ok (.ireturn, 1) := by decide +kernel
theorem dX10_put_28 : decode cX10_put 28 = .ok (.iconst 0, 1) := by decide +kernel
theorem dX10_put_29 : decode cX10_put 29 = .ok (.istore 4, 2) := by decide +kernel
theorem dX10_put_31 : decode cX10_put 31 = .ok (.iload 4, 2) := by decide +kernel
theorem dX10_put_33 : decode cX10_put 33 = .ok (.iload_n 3, 1) := by decide +kernel
theorem dX10_put_34 : decode cX10_put 34 = .ok (.if_icmp .ge 37, 3) := by decide +kernel
end
section
theorem dX10_put_37 : decode cX10_put 37 = .ok (.aload_n 0, 1) := by decide +kernel
theorem dX10_put_38 : decode cX10_put 38 = .ok (.getfield 25, 3) := by decide +kernel
theorem dX10_put_41 : decode cX10_put 41 = .ok (.aload_n 0, 1) := by decide +kernel
theorem dX10_put_42 : decode cX10_put 42 = .ok (.getfield 132, 3) := by decide +kernel
theorem dX10_put_45 : decode cX10_put 45 = .ok (.iload 4, 2) := by decide +kernel
theorem dX10_put_47 : decode cX10_put 47 = .ok (.iadd, 1) := by decide +kernel
theorem dX10_put_48 : decode cX10_put 48 = .ok (.lload_n 1, 1) := by decide +kernel
theorem dX10_put_49 : decode cX10_put 49 = .ok (.bipush 8, 2) := by decide +kernel
theorem dX10_put_51 : decode cX10_put 51 = .ok (.iload_n 3, 1) := by decide +kernel
theorem dX10_put_52 : decode cX10_put 52 = .ok (.iconst 1, 1) := by decide +kernel
theorem dX10_put_53 : decode cX10_put 53 = .ok (.isub, 1) := by decide +kernel
theorem dX10_put_54 : decode cX10_put 54 = .ok (.iload 4, 2) := by decide +kernel
theorem dX10_put_56 : decode cX10_put 56 = .ok (.isub, 1) := by decide +kernel
theorem dX10_put_57 : decode cX10_put 57 = .ok (.imul, 1) := by decide +kernel
theorem dX10_put_58 : decode cX10_put 58 = .ok (.lushr, 1) := by decide +kernel
theorem dX10_put_59 : decode cX10_put 59 = .ok (.ldc2_w 149, 3) := by decide +kernel
theorem dX10_put_62 : decode cX10_put 62 = .ok (.land, 1) := by decide +kernel
theorem dX10_put_63 : decode cX10_put 63 = .ok (.l2i, 1) := by decide +kernel
theorem dX10_put_64 : decode cX10_put 64 = .ok (.iastore, 1) := by decide +kernel
theorem dX10_put_65 : decode cX10_put 65 = .ok (.iinc 4 1, 3) := by decide +kernel
theorem dX10_put_68 : decode cX10_put 68 = .ok (.goto (-37), 3) := by decide +kernel
theorem dX10_put_71 : decode cX10_put 71 = .ok (.aload_n 0, 1) := by decide +kernel
theorem dX10_put_72 : decode cX10_put 72 = .ok (.dup, 1) := by decide +kernel
theorem dX10_put_73 : decode cX10_put 73 = .ok (.getfield 132, 3) := by decide +kernel
theorem dX10_put_76 : decode cX10_put 76 = .ok (.iload_n 3, 1) := by decide +kernel
theorem dX10_put_77 : decode cX10_put 77 = .ok (.iadd, 1) := by decide +kernel
theorem dX10_put_78 : decode cX10_put 78 = .ok (.putfield 132, 3) := by decide +kernel
theorem dX10_put_81 : decode cX10_put 81 = .ok (.aload_n 0, 1) := by decide +kernel
theorem dX10_put_82 : decode cX10_put 82 = .ok (.getfield 132, 3) := by decide +kernel
theorem dX10_put_85 : decode cX10_put 85 = .ok (.ireturn, 1) := by decide +kernel
theorem dX10_wipe_0 : decode cX10_wipe 0 = .ok (.aload_n 0, 1) := by decide +kernel
theorem dX10_wipe_1 : decode cX10_wipe 1 = .ok (.getfield 132, 3) := by decide +kernel
theorem dX10_wipe_4 : decode cX10_wipe 4 = .ok (.istore_n 1, 1) := by decide +kernel
theorem dX10_wipe_5 : decode cX10_wipe 5 = .ok (.aload_n 0, 1) := by decide +kernel
theorem dX10_wipe_6 : decode cX10_wipe 6 = .ok (.iconst 0, 1) := by decide +kernel
theorem dX10_wipe_7 : decode cX10_wipe 7 = .ok (.putfield 132, 3) := by decide +kernel
theorem dX10_wipe_10 : decode cX10_wipe 10 = .ok (.iload_n 1, 1) := by decide +kernel
theorem dX10_wipe_11 : decode cX10_wipe 11 = .ok (.ireturn, 1) := by decide +kernel
theorem dX10_isHere_0 : decode cX10_isHere 0 = .ok (.aload_n 0, 1) := by decide +kernel
theorem dX10_isHere_1 : decode cX10_isHere 1 = .ok (.getfield 159, 3) := by decide +kernel
theorem dX10_isHere_4 : decode cX10_isHere 4 = .ok (.aload_n 0, 1) := by decide +kernel
theorem dX10_isHere_5 : decode cX10_isHere 5 = .ok (.getfield 132, 3) := by decide +kernel
theorem dX10_isHere_8 : decode cX10_isHere 8 = .ok (.if_icmp .ge 27, 3) := by decide +kernel
theorem dX10_isHere_11 : decode cX10_isHere 11 = .ok (.aload_n 0, 1) := by decide +kernel
theorem dX10_isHere_12 : decode cX10_isHere 12 = .ok (.getfield 25, 3) := by decide +kernel
theorem dX10_isHere_15 : decode cX10_isHere 15 = .ok (.aload_n 0, 1) := by decide +kernel
theorem dX10_isHere_16 : decode cX10_isHere 16 = .ok (.getfield 159, 3) := by decide +kernel
theorem dX10_isHere_19 : decode cX10_isHere 19 = .ok (.iaload, 1) := by decide +kernel
theorem dX10_isHere_20 : decode cX10_isHere 20 = .ok (.i2l, 1) := by decide +kernel
theorem dX10_isHere_21 : decode cX10_isHere 21 = .ok (.iload_n 1, 1) := by decide +kernel
theorem dX10_isHere_22 : decode cX10_isHere 22 = .ok (.i2l, 1) := by decide +kernel
theorem dX10_isHere_23 : decode cX10_isHere 23 = .ok (.iload_n 2, 1) := by decide +kernel
theorem dX10_isHere_24 : decode cX10_isHere 24 = .ok (.i2l, 1) := by decide +kernel
theorem dX10_isHere_25 : decode cX10_isHere 25 = .ok (.invokestatic 95, 3) := by decide +kernel
theorem dX10_isHere_28 : decode cX10_isHere 28 = .ok (.ifCond .eq 7, 3) := by decide +kernel
theorem dX10_isHere_31 : decode cX10_isHere 31 = .ok (.iconst 1, 1) := by decide +kernel
theorem dX10_isHere_32 : decode cX10_isHere 32 = .ok (.goto 4, 3) := by decide +kernel
theorem dX10_isHere_35 : decode cX10_isHere 35 = .ok (.iconst 0, 1) := by decide +kernel
theorem dX10_isHere_36 : decode cX10_isHere 36 = .ok (.ireturn, 1) := by decide +kernel
theorem dX10_takesOne_0 : decode cX10_takesOne 0 = .ok (.aload_n 0, 1) := by decide +kernel
theorem dX10_takesOne_1 : decode cX10_takesOne 1 = .ok (.iload_n 1, 1) := by decide +kernel
theorem dX10_takesOne_2 : decode cX10_takesOne 2 = .ok (.iload_n 1, 1) := by decide +kernel
theorem dX10_takesOne_3 : decode cX10_takesOne 3 = .ok (.invokevirtual 162, 3) := by decide +kernel
theorem dX10_takesOne_6 : decode cX10_takesOne 6 = .ok (.istore_n 2, 1) := by decide +kernel
theorem dX10_takesOne_7 : decode cX10_takesOne 7 = .ok (.aload_n 0, 1) := by decide +kernel
theorem dX10_takesOne_8 : decode cX10_takesOne 8 = .ok (.dup, 1) := by decide +kernel
theorem dX10_takesOne_9 : decode cX10_takesOne 9 = .ok (.getfield 159, 3) := by decide +kernel
theorem dX10_takesOne_12 : decode cX10_takesOne 12 = .ok (.iload_n 2, 1) := by decide +kernel
theorem dX10_takesOne_13 : decode cX10_takesOne 13 = .ok (.ifCond .eq 7, 3) := by decide +kernel
theorem dX10_takesOne_16 : decode cX10_takesOne 16 = .ok (.iconst 1, 1) := by decide +kernel
theorem dX10_takesOne_17 : decode cX10_takesOne 17 = .ok (.goto 4, 3) := by decide +kernel
theorem dX10_takesOne_20 : decode cX10_takesOne 20 = .ok (.iconst 0, 1) := by decide +kernel
theorem dX10_takesOne_21 : decode cX10_takesOne 21 = .ok (.iadd, 1) := by decide +kernel
theorem dX10_takesOne_22 : decode cX10_takesOne 22 = .ok (.putfield 159, 3) := by decide +kernel
theorem dX10_takesOne_25 : decode cX10_takesOne 25 = .ok (.iload_n 2, 1) := by decide +kernel
theorem dX10_takesOne_26 : decode cX10_takesOne 26 = .ok (.ireturn, 1) := by decide +kernel
theorem dX10_readsBid_0 : decode cX10_readsBid 0 = .ok (.aload_n 0, 1) := by decide +kernel
theorem dX10_readsBid_1 : decode cX10_readsBid 1 = .ok (.bipush 48, 2) := by decide +kernel
theorem dX10_readsBid_3 : decode cX10_readsBid 3 = .ok (.bipush 57, 2) := by decide +kernel
theorem dX10_readsBid_5 : decode cX10_readsBid 5 = .ok (.invokevirtual 162, 3) := by decide +kernel
theorem dX10_readsBid_8 : decode cX10_readsBid 8 = .ok (.ifCond .ne 5, 3) := by decide +kernel
theorem dX10_readsBid_11 : decode cX10_readsBid 11 = .ok (.iconst 0, 1) := by decide +kernel
theorem dX10_readsBid_12 : decode cX10_readsBid 12 = .ok (.ireturn, 1) := by decide +kernel
theorem dX10_readsBid_13 : decode cX10_readsBid 13 = .ok (.aload_n 0, 1) := by decide +kernel
theorem dX10_readsBid_14 : decode cX10_readsBid 14 = .ok (.aload_n 0, 1) := by decide +kernel
theorem dX10_readsBid_15 : decode cX10_readsBid 15 = .ok (.getfield 25, 3) := by decide +kernel
theorem dX10_readsBid_18 : decode cX10_readsBid 18 = .ok (.aload_n 0, 1) := by decide +kernel
theorem dX10_readsBid_19 : decode cX10_readsBid 19 = .ok (.getfield 159, 3) := by decide +kernel
theorem dX10_readsBid_22 : decode cX10_readsBid 22 = .ok (.iaload, 1) := by decide +kernel
theorem dX10_readsBid_23 : decode cX10_readsBid 23 = .ok (.bipush 48, 2) := by decide +kernel
theorem dX10_readsBid_25 : decode cX10_readsBid 25 = .ok (.isub, 1) := by decide +kernel
theorem dX10_readsBid_26 : decode cX10_readsBid 26 = .ok (.putfield 165, 3) := by decide +kernel
theorem dX10_readsBid_29 : decode cX10_readsBid 29 = .ok (.aload_n 0, 1) := by decide +kernel
theorem dX10_readsBid_30 : decode cX10_readsBid 30 = .ok (.dup, 1) := by decide +kernel
theorem dX10_readsBid_31 : decode cX10_readsBid 31 = .ok (.getfield 159, 3) := by decide +kernel
theorem dX10_readsBid_34 : decode cX10_readsBid 34 = .ok (.iconst 1, 1) := by decide +kernel
theorem dX10_readsBid_35 : decode cX10_readsBid 35 = .ok (.iadd, 1) := by decide +kernel
theorem dX10_readsBid_36 : decode cX10_readsBid 36 = .ok (.putfield 159, 3) := by decide +kernel
theorem dX10_readsBid_39 : decode cX10_readsBid 39 = .ok (.aload_n 0, 1) := by decide +kernel
theorem dX10_readsBid_40 : decode cX10_readsBid 40 = .ok (.getfield 165, 3) := by decide +kernel
theorem dX10_readsBid_43 : decode cX10_readsBid 43 = .ok (.iconst 1, 1) := by decide +kernel
theorem dX10_readsBid_44 : decode cX10_readsBid 44 = .ok (.if_icmp .ne 43, 3) := by decide +kernel
theorem dX10_readsBid_47 : decode cX10_readsBid 47 = .ok (.aload_n 0, 1) := by decide +kernel
theorem dX10_readsBid_48 : decode cX10_readsBid 48 = .ok (.bipush 48, 2) := by decide +kernel
theorem dX10_readsBid_50 : decode cX10_readsBid 50 = .ok (.bipush 52, 2) := by decide +kernel
theorem dX10_readsBid_52 : decode cX10_readsBid 52 = .ok (.invokevirtual 162, 3) := by decide +kernel
theorem dX10_readsBid_55 : decode cX10_readsBid 55 = .ok (.ifCond .eq 32, 3) := by decide +kernel
theorem dX10_readsBid_58 : decode cX10_readsBid 58 = .ok (.aload_n 0, 1) := by decide +kernel
theorem dX10_readsBid_59 : decode cX10_readsBid 59 = .ok (.bipush 10, 2) := by decide +kernel
theorem dX10_readsBid_61 : decode cX10_readsBid 61 = .ok (.aload_n 0, 1) := by decide +kernel
theorem dX10_readsBid_62 : decode cX10_readsBid 62 = .ok (.getfield 25, 3) := by decide +kernel
theorem dX10_readsBid_65 : decode cX10_readsBid 65 = .ok (.aload_n 0, 1) := by decide +kernel
theorem dX10_readsBid_66 : decode cX10_readsBid 66 = .ok (.getfield 159, 3) := by decide +kernel
theorem dX10_readsBid_69 : decode cX10_readsBid 69 = .ok (.iaload, 1) := by decide +kernel
theorem dX10_readsBid_70 : decode cX10_readsBid 70 = .ok (.iadd, 1) := by decide +kernel
theorem dX10_readsBid_71 : decode cX10_readsBid 71 = .ok (.bipush 48, 2) := by decide +kernel
theorem dX10_readsBid_73 : decode cX10_readsBid 73 = .ok (.isub, 1) := by decide +kernel
theorem dX10_readsBid_74 : decode cX10_readsBid 74 = .ok (.putfield 165, 3) := by decide +kernel
theorem dX10_readsBid_77 : decode cX10_readsBid 77 = .ok (.aload_n 0, 1) := by decide +kernel
theorem dX10_readsBid_78 : decode cX10_readsBid 78 = .ok (.dup, 1) := by decide +kernel
theorem dX10_readsBid_79 : decode cX10_readsBid 79 = .ok (.getfield 159, 3) := by decide +kernel
theorem dX10_readsBid_82 : decode cX10_readsBid 82 = .ok (.iconst 1, 1) := by decide +kernel
theorem dX10_readsBid_83 : decode cX10_readsBid 83 = .ok (.iadd, 1) := by decide +kernel
theorem dX10_readsBid_84 : decode cX10_readsBid 84 = .ok (.putfield 159, 3) := by decide +kernel
theorem dX10_readsBid_87 : decode cX10_readsBid 87 = .ok (.iconst 1, 1) := by decide +kernel
theorem dX10_readsBid_88 : decode cX10_readsBid 88 = .ok (.ireturn, 1) := by decide +kernel
theorem dX10_readsRound_0 : decode cX10_readsRound 0 = .ok (.aload_n 0, 1) := by decide +kernel
theorem dX10_readsRound_1 : decode cX10_readsRound 1 = .ok (.invokevirtual 168, 3) := by decide +kernel
theorem dX10_readsRound_4 : decode cX10_readsRound 4 = .ok (.ifCond .ne 5, 3) := by decide +kernel
theorem dX10_readsRound_7 : decode cX10_readsRound 7 = .ok (.iconst 0, 1) := by decide +kernel
theorem dX10_readsRound_8 : decode cX10_readsRound 8 = .ok (.ireturn, 1) := by decide +kernel
theorem dX10_readsRound_9 : decode cX10_readsRound 9 = .ok (.aload_n 0, 1) := by decide +kernel
theorem dX10_readsRound_10 : decode cX10_readsRound 10 = .ok (.getfield 28, 3) := by decide +kernel
theorem dX10_readsRound_13 : decode cX10_readsRound 13 = .ok (.iconst 2, 1) := by decide +kernel
theorem dX10_readsRound_14 : decode cX10_readsRound 14 = .ok (.aload_n 0, 1) := by decide +kernel
theorem dX10_readsRound_15 : decode cX10_readsRound 15 = .ok (.getfield 171, 3) := by decide +kernel
theorem dX10_readsRound_18 : decode cX10_readsRound 18 = .ok (.imul, 1) := by decide +kernel
theorem dX10_readsRound_19 : decode cX10_readsRound 19 = .ok (.aload_n 0, 1) := by decide +kernel
theorem dX10_readsRound_20 : decode cX10_readsRound 20 = .ok (.getfield 165, 3) := by decide +kernel
theorem dX10_readsRound_23 : decode cX10_readsRound 23 = .ok (.iastore, 1) := by decide +kernel
theorem dX10_readsRound_24 : decode cX10_readsRound 24 = .ok (.aload_n 0, 1) := by decide +kernel
theorem dX10_readsRound_25 : decode cX10_readsRound 25 = .ok (.bipush 58, 2) := by decide +kernel
theorem dX10_readsRound_27 : decode cX10_readsRound 27 = .ok (.invokevirtual 174, 3) := by decide +kernel
theorem dX10_readsRound_30 : decode cX10_readsRound 30 = .ok (.ifCond .eq 10, 3) := by decide +kernel
theorem dX10_readsRound_33 : decode cX10_readsRound 33 = .ok (.aload_n 0, 1) := by decide +kernel
theorem dX10_readsRound_34 : decode cX10_readsRound 34 = .ok (.invokevirtual 168, 3) := by decide +kernel
theorem dX10_readsRound_37 : decode cX10_readsRound 37 = .ok (.ifCond .ne 5, 3) := by decide +kernel
theorem dX10_readsRound_40 : decode cX10_readsRound 40 = .ok (.iconst 0, 1) := by decide +kernel
theorem dX10_readsRound_41 : decode cX10_readsRound 41 = .ok (.ireturn, 1) := by decide +kernel
theorem dX10_readsRound_42 : decode cX10_readsRound 42 = .ok (.aload_n 0, 1) := by decide +kernel
theorem dX10_readsRound_43 : decode cX10_readsRound 43 = .ok (.getfield 28, 3) := by decide +kernel
theorem dX10_readsRound_46 : decode cX10_readsRound 46 = .ok (.iconst 2, 1) := by decide +kernel
theorem dX10_readsRound_47 : decode cX10_readsRound 47 = .ok (.aload_n 0, 1) := by decide +kernel
theorem dX10_readsRound_48 : decode cX10_readsRound 48 = .ok (.getfield 171, 3) := by decide +kernel
theorem dX10_readsRound_51 : decode cX10_readsRound 51 = .ok (.imul, 1) := by decide +kernel
theorem dX10_readsRound_52 : decode cX10_readsRound 52 = .ok (.iconst 1, 1) := by decide +kernel
theorem dX10_readsRound_53 : decode cX10_readsRound 53 = .ok (.iadd, 1) := by decide +kernel
theorem dX10_readsRound_54 : decode cX10_readsRound 54 = .ok (.aload_n 0, 1) := by decide +kernel
theorem dX10_readsRound_55 : decode cX10_readsRound 55 = .ok (.getfield 165, 3) := by decide +kernel
theorem dX10_readsRound_58 : decode cX10_readsRound 58 = .ok (.iastore, 1) := by decide +kernel
theorem dX10_readsRound_59 : decode cX10_readsRound 59 = .ok (.aload_n 0, 1) := by decide +kernel
theorem dX10_readsRound_60 : decode cX10_readsRound 60 = .ok (.dup, 1) := by decide +kernel
theorem dX10_readsRound_61 : decode cX10_readsRound 61 = .ok (.getfield 171, 3) := by decide +kernel
theorem dX10_readsRound_64 : decode cX10_readsRound 64 = .ok (.iconst 1, 1) := by decide +kernel
theorem dX10_readsRound_65 : decode cX10_readsRound 65 = .ok (.iadd, 1) := by decide +kernel
theorem dX10_readsRound_66 : decode cX10_readsRound 66 = .ok (.putfield 171, 3) := by decide +kernel
theorem dX10_readsRound_69 : decode cX10_readsRound 69 = .ok (.iconst 1, 1) := by decide +kernel
theorem dX10_readsRound_70 : decode cX10_readsRound 70 = .ok (.ireturn, 1) := by decide +kernel
theorem dX10_fault_0 : decode cX10_fault 0 = .ok (.aload_n 0, 1) := by decide +kernel
theorem dX10_fault_1 : decode cX10_fault 1 = .ok (.iconst 0, 1) := by decide +kernel
theorem dX10_fault_2 : decode cX10_fault 2 = .ok (.putfield 159, 3) := by decide +kernel
theorem dX10_fault_5 : decode cX10_fault 5 = .ok (.aload_n 0, 1) := by decide +kernel
theorem dX10_fault_6 : decode cX10_fault 6 = .ok (.iconst 0, 1) := by decide +kernel
theorem dX10_fault_7 : decode cX10_fault 7 = .ok (.putfield 171, 3) := by decide +kernel
theorem dX10_fault_10 : decode cX10_fault 10 = .ok (.iconst 1, 1) := by decide +kernel
theorem dX10_fault_11 : decode cX10_fault 11 = .ok (.istore_n 1, 1) := by decide +kernel
theorem dX10_fault_12 : decode cX10_fault 12 = .ok (.iload_n 1, 1) := by decide +kernel
theorem dX10_fault_13 : decode cX10_fault 13 = .ok (.ifCond .eq 25, 3) := by decide +kernel
theorem dX10_fault_16 : decode cX10_fault 16 = .ok (.aload_n 0, 1) := by decide +kernel
theorem dX10_fault_17 : decode cX10_fault 17 = .ok (.invokevirtual 177, 3) := by decide +kernel
theorem dX10_fault_20 : decode cX10_fault 20 = .ok (.ifCond .ne 8, 3) := by decide +kernel
theorem dX10_fault_23 : decode cX10_fault 23 = .ok (.aload_n 0, 1) := by decide +kernel
theorem dX10_fault_24 : decode cX10_fault 24 = .ok (.getfield 159, 3) := by decide +kernel
theorem dX10_fault_27 : decode cX10_fault 27 = .ok (.ireturn, 1) := by decide +kernel
theorem dX10_fault_28 : decode cX10_fault 28 = .ok (.aload_n 0, 1) := by decide +kernel
theorem dX10_fault_29 : decode cX10_fault 29 = .ok (.bipush 44, 2) := by decide +kernel
theorem dX10_fault_31 : decode cX10_fault 31 = .ok (.invokevirtual 174, 3) := by decide +kernel
theorem dX10_fault_34 : decode cX10_fault 34 = .ok (.istore_n 1, 1) := by decide +kernel
theorem dX10_fault_35 : decode cX10_fault 35 = .ok (.goto (-23), 3) := by decide +kernel
theorem dX10_fault_38 : decode cX10_fault 38 = .ok (.aload_n 0, 1) := by decide +kernel
theorem dX10_fault_39 : decode cX10_fault 39 = .ok (.getfield 159, 3) := by decide +kernel
theorem dX10_fault_42 : decode cX10_fault 42 = .ok (.aload_n 0, 1) := by decide +kernel
theorem dX10_fault_43 : decode cX10_fault 43 = .ok (.getfield 132, 3) := by decide +kernel
theorem dX10_fault_46 : decode cX10_fault 46 = .ok (.if_icmp .ne 9, 3) := by decide +kernel
theorem dX10_fault_49 : decode cX10_fault 49 = .ok (.sipush (-1006), 3) := by decide +kernel
theorem dX10_fault_52 : decode cX10_fault 52 = .ok (.goto 7, 3) := by decide +kernel
theorem dX10_fault_55 : decode cX10_fault 55 = .ok (.aload_n 0, 1) := by decide +kernel
theorem dX10_fault_56 : decode cX10_fault 56 = .ok (.getfield 159, 3) := by decide +kernel
theorem dX10_fault_59 : decode cX10_fault 59 = .ok (.ireturn, 1) := by decide +kernel
theorem dX10_run_0 : decode cX10_run 0 = .ok (.aload_n 0, 1) := by decide +kernel
theorem dX10_run_1 : decode cX10_run 1 = .ok (.invokevirtual 180, 3) := by decide +kernel
theorem dX10_run_4 : decode cX10_run 4 = .ok (.sipush (-1006), 3) := by decide +kernel
theorem dX10_run_7 : decode cX10_run 7 = .ok (.if_icmp .eq 7, 3) := by decide +kernel
theorem dX10_run_10 : decode cX10_run 10 = .ok (.sipush (-1003), 3) := by decide +kernel
theorem dX10_run_13 : decode cX10_run 13 = .ok (.ireturn, 1) := by decide +kernel
theorem dX10_run_14 : decode cX10_run 14 = .ok (.aload_n 0, 1) := by decide +kernel
theorem dX10_run_15 : decode cX10_run 15 = .ok (.invokevirtual 105, 3) := by decide +kernel
theorem dX10_run_18 : decode cX10_run 18 = .ok (.iconst 0, 1) := by decide +kernel
theorem dX10_run_19 : decode cX10_run 19 = .ok (.istore_n 1, 1) := by decide +kernel
theorem dX10_run_20 : decode cX10_run 20 = .ok (.iload_n 1, 1) := by decide +kernel
theorem dX10_run_21 : decode cX10_run 21 = .ok (.aload_n 0, 1) := by decide +kernel
theorem dX10_run_22 : decode cX10_run 22 = .ok (.getfield 171, 3) := by decide +kernel
theorem dX10_run_25 : decode cX10_run 25 = .ok (.if_icmp .ge 57, 3) := by decide +kernel
theorem dX10_run_28 : decode cX10_run 28 = .ok (.aload_n 0, 1) := by decide +kernel
theorem dX10_run_29 : decode cX10_run 29 = .ok (.aload_n 0, 1) := by decide +kernel
theorem dX10_run_30 : decode cX10_run 30 = .ok (.getfield 28, 3) := by decide +kernel
theorem dX10_run_33 : decode cX10_run 33 = .ok (.iconst 2, 1) := by decide +kernel
theorem dX10_run_34 : decode cX10_run 34 = .ok (.iload_n 1, 1) := by decide +kernel
theorem dX10_run_35 : decode cX10_run 35 = .ok (.imul, 1) := by decide +kernel
theorem dX10_run_36 : decode cX10_run 36 = .ok (.iaload, 1) := by decide +kernel
theorem dX10_run_37 : decode cX10_run 37 = .ok (.aload_n 0, 1) := by decide +kernel
theorem dX10_run_38 : decode cX10_run 38 = .ok (.getfield 28, 3) := by decide +kernel
theorem dX10_run_41 : decode cX10_run 41 = .ok (.iconst 2, 1) := by decide +kernel
theorem dX10_run_42 : decode cX10_run 42 = .ok (.iload_n 1, 1) := by decide +kernel
theorem dX10_run_43 : decode cX10_run 43 = .ok (.imul, 1) := by decide +kernel
theorem dX10_run_44 : decode cX10_run 44 = .ok (.iconst 1, 1) := by decide +kernel
theorem dX10_run_45 : decode cX10_run 45 = .ok (.iadd, 1) := by decide +kernel
theorem dX10_run_46 : decode cX10_run 46 = .ok (.iaload, 1) := by decide +kernel
theorem dX10_run_47 : decode cX10_run 47 = .ok (.invokevirtual 112, 3) := by decide +kernel
theorem dX10_run_50 : decode cX10_run 50 = .ok (.ifCond .eq 32, 3) := by decide +kernel
theorem dX10_run_53 : decode cX10_run 53 = .ok (.aload_n 0, 1) := by decide +kernel
theorem dX10_run_54 : decode cX10_run 54 = .ok (.aload_n 0, 1) := by decide +kernel
theorem dX10_run_55 : decode cX10_run 55 = .ok (.getfield 28, 3) := by decide +kernel
theorem dX10_run_58 : decode cX10_run 58 = .ok (.iconst 2, 1) := by decide +kernel
theorem dX10_run_59 : decode cX10_run 59 = .ok (.iload_n 1, 1) := by decide +kernel
theorem dX10_run_60 : decode cX10_run 60 = .ok (.imul, 1) := by decide +kernel
theorem dX10_run_61 : decode cX10_run 61 = .ok (.iaload, 1) := by decide +kernel
theorem dX10_run_62 : decode cX10_run 62 = .ok (.aload_n 0, 1) := by decide +kernel
theorem dX10_run_63 : decode cX10_run 63 = .ok (.getfield 28, 3) := by decide +kernel
theorem dX10_run_66 : decode cX10_run 66 = .ok (.iconst 2, 1) := by decide +kernel
theorem dX10_run_67 : decode cX10_run 67 = .ok (.iload_n 1, 1) := by decide +kernel
theorem dX10_run_68 : decode cX10_run 68 = .ok (.imul, 1) := by decide +kernel
theorem dX10_run_69 : decode cX10_run 69 = .ok (.iconst 1, 1) := by decide +kernel
theorem dX10_run_70 : decode cX10_run 70 = .ok (.iadd, 1) := by decide +kernel
theorem dX10_run_71 : decode cX10_run 71 = .ok (.iaload, 1) := by decide +kernel
theorem dX10_run_72 : decode cX10_run 72 = .ok (.invokevirtual 115, 3) := by decide +kernel
theorem dX10_run_75 : decode cX10_run 75 = .ok (.istore_n 2, 1) := by decide +kernel
theorem dX10_run_76 : decode cX10_run 76 = .ok (.iinc 1 1, 3) := by decide +kernel
theorem dX10_run_79 : decode cX10_run 79 = .ok (.goto (-59), 3) := by decide +kernel
theorem dX10_run_82 : decode cX10_run 82 = .ok (.aload_n 0, 1) := by decide +kernel
theorem dX10_run_83 : decode cX10_run 83 = .ok (.iconst 0, 1) := by decide +kernel
theorem dX10_run_84 : decode cX10_run 84 = .ok (.putfield 132, 3) := by decide +kernel
theorem dX10_run_87 : decode cX10_run 87 = .ok (.iload_n 1, 1) := by decide +kernel
theorem dX10_run_88 : decode cX10_run 88 = .ok (.ireturn, 1) := by decide +kernel
theorem dX10_undo_0 : decode cX10_undo 0 = .ok (.aload_n 0, 1) := by decide +kernel
theorem dX10_undo_1 : decode cX10_undo 1 = .ok (.getfield 34, 3) := by decide +kernel
theorem dX10_undo_4 : decode cX10_undo 4 = .ok (.ifCond .ne 7, 3) := by decide +kernel
theorem dX10_undo_7 : decode cX10_undo 7 = .ok (.sipush (-1005), 3) := by decide +kernel
theorem dX10_undo_10 : decode cX10_undo 10 = .ok (.ireturn, 1) := by decide +kernel
theorem dX10_undo_11 : decode cX10_undo 11 = .ok (.aload_n 0, 1) := by decide +kernel
theorem dX10_undo_12 : decode cX10_undo 12 = .ok (.dup, 1) := by decide +kernel
theorem dX10_undo_13 : decode cX10_undo 13 = .ok (.getfield 34, 3) := by decide +kernel
theorem dX10_undo_16 : decode cX10_undo 16 = .ok (.iconst 1, 1) := by decide +kernel
theorem dX10_undo_17 : decode cX10_undo 17 = .ok (.isub, 1) := by decide +kernel
theorem dX10_undo_18 : decode cX10_undo 18 = .ok (.putfield 34, 3) := by decide +kernel
theorem dX10_undo_21 : decode cX10_undo 21 = .ok (.iconst 0, 1) := by decide +kernel
theorem dX10_undo_22 : decode cX10_undo 22 = .ok (.istore_n 1, 1) := by decide +kernel
theorem dX10_undo_23 : decode cX10_undo 23 = .ok (.iload_n 1, 1) := by decide +kernel
theorem dX10_undo_24 : decode cX10_undo 24 = .ok (.bipush 19, 2) := by decide +kernel
theorem dX10_undo_26 : decode cX10_undo 26 = .ok (.if_icmp .ge 29, 3) := by decide +kernel
theorem dX10_undo_29 : decode cX10_undo 29 = .ok (.aload_n 0, 1) := by decide +kernel
theorem dX10_undo_30 : decode cX10_undo 30 = .ok (.getfield 7, 3) := by decide +kernel
theorem dX10_undo_33 : decode cX10_undo 33 = .ok (.iload_n 1, 1) := by decide +kernel
theorem dX10_undo_34 : decode cX10_undo 34 = .ok (.aload_n 0, 1) := by decide +kernel
theorem dX10_undo_35 : decode cX10_undo 35 = .ok (.getfield 13, 3) := by decide +kernel
theorem dX10_undo_38 : decode cX10_undo 38 = .ok (.bipush 19, 2) := by decide +kernel
theorem dX10_undo_40 : decode cX10_undo 40 = .ok (.aload_n 0, 1) := by decide +kernel
theorem dX10_undo_41 : decode cX10_undo 41 = .ok (.getfield 34, 3) := by decide +kernel
theorem dX10_undo_44 : decode cX10_undo 44 = .ok (.imul, 1) := by decide +kernel
theorem dX10_undo_45 : decode cX10_undo 45 = .ok (.iload_n 1, 1) := by decide +kernel
theorem dX10_undo_46 : decode cX10_undo 46 = .ok (.iadd, 1) := by decide +kernel
theorem dX10_undo_47 : decode cX10_undo 47 = .ok (.iaload, 1) := by decide +kernel
theorem dX10_undo_48 : decode cX10_undo 48 = .ok (.iastore, 1) := by decide +kernel
theorem dX10_undo_49 : decode cX10_undo 49 = .ok (.iinc 1 1, 3) := by decide +kernel
theorem dX10_undo_52 : decode cX10_undo 52 = .ok (.goto (-29), 3) := by decide +kernel
theorem dX10_undo_55 : decode cX10_undo 55 = .ok (.aload_n 0, 1) := by decide +kernel
theorem dX10_undo_56 : decode cX10_undo 56 = .ok (.getfield 34, 3) := by decide +kernel
theorem dX10_undo_59 : decode cX10_undo 59 = .ok (.ireturn, 1) := by decide +kernel
theorem dX10_save_0 : decode cX10_save 0 = .ok (.iload_n 1, 1) := by decide +kernel
theorem dX10_save_1 : decode cX10_save 1 = .ok (.invokestatic 125, 3) := by decide +kernel
theorem dX10_save_4 : decode cX10_save 4 = .ok (.ifCond .ne 7, 3) := by decide +kernel
theorem dX10_save_7 : decode cX10_save 7 = .ok (.sipush (-1002), 3) := by decide +kernel
theorem dX10_save_10 : decode cX10_save 10 = .ok (.ireturn, 1) := by decide +kernel
theorem dX10_save_11 : decode cX10_save 11 = .ok (.iconst 0, 1) := by decide +kernel
theorem dX10_save_12 : decode cX10_save 12 = .ok (.istore_n 2, 1) := by decide +kernel
theorem dX10_save_13 : decode cX10_save 13 = .ok (.iload_n 2, 1) := by decide +kernel
theorem dX10_save_14 : decode cX10_save 14 = .ok (.bipush 19, 2) := by decide +kernel
theorem dX10_save_16 : decode cX10_save 16 = .ok (.if_icmp .ge 26, 3) := by decide +kernel
theorem dX10_save_19 : decode cX10_save 19 = .ok (.aload_n 0, 1) := by decide +kernel
theorem dX10_save_20 : decode cX10_save 20 = .ok (.getfield 16, 3) := by decide +kernel
theorem dX10_save_23 : decode cX10_save 23 = .ok (.bipush 19, 2) := by decide +kernel
theorem dX10_save_25 : decode cX10_save 25 = .ok (.iload_n 1, 1) := by decide +kernel
theorem dX10_save_26 : decode cX10_save 26 = .ok (.imul, 1) := by decide +kernel
theorem dX10_save_27 : decode cX10_save 27 = .ok (.iload_n 2, 1) := by decide +kernel
theorem dX10_save_28 : decode cX10_save 28 = .ok (.iadd, 1) := by decide +kernel
theorem dX10_save_29 : decode cX10_save 29 = .ok (.aload_n 0, 1) := by decide +kernel
theorem dX10_save_30 : decode cX10_save 30 = .ok (.getfield 7, 3) := by decide +kernel
theorem dX10_save_33 : decode cX10_save 33 = .ok (.iload_n 2, 1) := by decide +kernel
theorem dX10_save_34 : decode cX10_save 34 = .ok (.iaload, 1) := by decide +kernel
theorem dX10_save_35 : decode cX10_save 35 = .ok (.iastore, 1) := by decide +kernel
theorem dX10_save_36 : decode cX10_save 36 = .ok (.iinc 2 1, 3) := by decide +kernel
theorem dX10_save_39 : decode cX10_save 39 = .ok (.goto (-26), 3) := by decide +kernel
theorem dX10_save_42 : decode cX10_save 42 = .ok (.aload_n 0, 1) := by decide +kernel
theorem dX10_save_43 : decode cX10_save 43 = .ok (.getfield 19, 3) := by decide +kernel
theorem dX10_save_46 : decode cX10_save 46 = .ok (.iload_n 1, 1) := by decide +kernel
theorem dX10_save_47 : decode cX10_save 47 = .ok (.iconst 1, 1) := by decide +kernel
theorem dX10_save_48 : decode cX10_save 48 = .ok (.iastore, 1) := by decide +kernel
theorem dX10_save_49 : decode cX10_save 49 = .ok (.aload_n 0, 1) := by decide +kernel
theorem dX10_save_50 : decode cX10_save 50 = .ok (.getfield 7, 3) := by decide +kernel
theorem dX10_save_53 : decode cX10_save 53 = .ok (.bipush 6, 2) := by decide +kernel
theorem dX10_save_55 : decode cX10_save 55 = .ok (.iaload, 1) := by decide +kernel
theorem dX10_save_56 : decode cX10_save 56 = .ok (.ireturn, 1) := by decide +kernel
theorem dX10_restore_0 : decode cX10_restore 0 = .ok (.iload_n 1, 1) := by decide +kernel
theorem dX10_restore_1 : decode cX10_restore 1 = .ok (.invokestatic 125, 3) := by decide +kernel
theorem dX10_restore_4 : decode cX10_restore 4 = .ok (.ifCond .ne 7, 3) := by decide +kernel
theorem dX10_restore_7 : decode cX10_restore 7 = .ok (.sipush (-1002), 3) := by decide +kernel
theorem dX10_restore_10 : decode cX10_restore 10 = .ok (.ireturn, 1) := by decide +kernel
theorem dX10_restore_11 : decode cX10_restore 11 = .ok (.aload_n 0, 1) := by decide +kernel
theorem dX10_restore_12 : decode cX10_restore 12 = .ok (.getfield 19, 3) := by decide +kernel
theorem dX10_restore_15 : decode cX10_restore 15 = .ok (.iload_n 1, 1) := by decide +kernel
theorem dX10_restore_16 : decode cX10_restore 16 = .ok (.iaload, 1) := by decide +kernel
theorem dX10_restore_17 : decode cX10_restore 17 = .ok (.ifCond .ne 7, 3) := by decide +kernel
theorem dX10_restore_20 : decode cX10_restore 20 = .ok (.sipush (-1005), 3) := by decide +kernel
theorem dX10_restore_23 : decode cX10_restore 23 = .ok (.ireturn, 1) := by decide +kernel
theorem dX10_restore_24 : decode cX10_restore 24 = .ok (.aload_n 0, 1) := by decide +kernel
theorem dX10_restore_25 : decode cX10_restore 25 = .ok (.invokevirtual 105, 3) := by decide +kernel
theorem dX10_restore_28 : decode cX10_restore 28 = .ok (.iconst 0, 1) := by decide +kernel
theorem dX10_restore_29 : decode cX10_restore 29 = .ok (.istore_n 2, 1) := by decide +kernel
theorem dX10_restore_30 : decode cX10_restore 30 = .ok (.iload_n 2, 1) := by decide +kernel
theorem dX10_restore_31 : decode cX10_restore 31 = .ok (.bipush 19, 2) := by decide +kernel
theorem dX10_restore_33 : decode cX10_restore 33 = .ok (.if_icmp .ge 26, 3) := by decide +kernel
theorem dX10_restore_36 : decode cX10_restore 36 = .ok (.aload_n 0, 1) := by decide +kernel
theorem dX10_restore_37 : decode cX10_restore 37 = .ok (.getfield 7, 3) := by decide +kernel
theorem dX10_restore_40 : decode cX10_restore 40 = .ok (.iload_n 2, 1) := by decide +kernel
theorem dX10_restore_41 : decode cX10_restore 41 = .ok (.aload_n 0, 1) := by decide +kernel
theorem dX10_restore_42 : decode cX10_restore 42 = .ok (.getfield 16, 3) := by decide +kernel
theorem dX10_restore_45 : decode cX10_restore 45 = .ok (.bipush 19, 2) := by decide +kernel
theorem dX10_restore_47 : decode cX10_restore 47 = .ok (.iload_n 1, 1) := by decide +kernel
theorem dX10_restore_48 : decode cX10_restore 48 = .ok (.imul, 1) := by decide +kernel
theorem dX10_restore_49 : decode cX10_restore 49 = .ok (.iload_n 2, 1) := by decide +kernel
theorem dX10_restore_50 : decode cX10_restore 50 = .ok (.iadd, 1) := by decide +kernel
theorem dX10_restore_51 : decode cX10_restore 51 = .ok (.iaload, 1) := by decide +kernel
theorem dX10_restore_52 : decode cX10_restore 52 = .ok (.iastore, 1) := by decide +kernel
theorem dX10_restore_53 : decode cX10_restore 53 = .ok (.iinc 2 1, 3) := by decide +kernel
theorem dX10_restore_56 : decode cX10_restore 56 = .ok (.goto (-26), 3) := by decide +kernel
theorem dX10_restore_59 : decode cX10_restore 59 = .ok (.aload_n 0, 1) := by decide +kernel
theorem dX10_restore_60 : decode cX10_restore 60 = .ok (.getfield 7, 3) := by decide +kernel
theorem dX10_restore_63 : decode cX10_restore 63 = .ok (.bipush 6, 2) := by decide +kernel
theorem dX10_restore_65 : decode cX10_restore 65 = .ok (.iaload, 1) := by decide +kernel
theorem dX10_restore_66 : decode cX10_restore 66 = .ok (.ireturn, 1) := by decide +kernel
theorem dL_law_0 : decode cL_law 0 = .ok (.new 7, 3) := by decide +kernel
theorem dL_law_3 : decode cL_law 3 = .ok (.dup, 1) := by decide +kernel
theorem dL_law_4 : decode cL_law 4 = .ok (.invokespecial 9, 3) := by decide +kernel
theorem dL_law_7 : decode cL_law 7 = .ok (.astore_n 1, 1) := by decide +kernel
theorem dL_law_8 : decode cL_law 8 = .ok (.new 10, 3) := by decide +kernel
theorem dL_law_11 : decode cL_law 11 = .ok (.dup, 1) := by decide +kernel
theorem dL_law_12 : decode cL_law 12 = .ok (.invokespecial 12, 3) := by decide +kernel
theorem dL_law_15 : decode cL_law 15 = .ok (.astore_n 2, 1) := by decide +kernel
theorem dL_law_16 : decode cL_law 16 = .ok (.iconst 0, 1) := by decide +kernel
theorem dL_law_17 : decode cL_law 17 = .ok (.istore_n 3, 1) := by decide +kernel
theorem dL_law_18 : decode cL_law 18 = .ok (.iload_n 3, 1) := by decide +kernel
theorem dL_law_19 : decode cL_law 19 = .ok (.aload_n 0, 1) := by decide +kernel
theorem dL_law_20 : decode cL_law 20 = .ok (.arraylength, 1) := by decide +kernel
theorem dL_law_21 : decode cL_law 21 = .ok (.iconst 3, 1) := by decide +kernel
theorem dL_law_22 : decode cL_law 22 = .ok (.isub, 1) := by decide +kernel
theorem dL_law_23 : decode cL_law 23 = .ok (.if_icmp .gt 564, 3) := by decide +kernel
theorem dL_law_26 : decode cL_law 26 = .ok (.aload_n 0, 1) := by decide +kernel
theorem dL_law_27 : decode cL_law 27 = .ok (.iload_n 3, 1) := by decide +kernel
theorem dL_law_28 : decode cL_law 28 = .ok (.iaload, 1) := by decide +kernel
theorem dL_law_29 : decode cL_law 29 = .ok (.bipush 31, 2) := by decide +kernel
theorem dL_law_31 : decode cL_law 31 = .ok (.iand, 1) := by decide +kernel
theorem dL_law_32 : decode cL_law 32 = .ok (.tableswitch 549 0 18 #[92, 125, 158, 191, 204, 217, 250, 273, 306, 339, 352, 375, 388, 411, 464, 477, 490, 503, 526], 92) := by decide +kernel
theorem dL_law_124 : decode cL_law 124 = .ok (.aload_n 1, 1) := by decide +kernel
theorem dL_law_125 : decode cL_law 125 = .ok (.aload_n 0, 1) := by decide +kernel
theorem dL_law_126 : decode cL_law 126 = .ok (.iload_n 3, 1) := by decide +kernel
theorem dL_law_127 : decode cL_law 127 = .ok (.iconst 1, 1) := by decide +kernel
theorem dL_law_128 : decode cL_law 128 = .ok (.iadd, 1) := by decide +kernel
theorem dL_law_129 : decode cL_law 129 = .ok (.iaload, 1) := by decide +kernel
theorem dL_law_130 : decode cL_law 130 = .ok (.aload_n 0, 1) := by decide +kernel
theorem dL_law_131 : decode cL_law 131 = .ok (.iload_n 3, 1) := by decide +kernel
theorem dL_law_132 : decode cL_law 132 = .ok (.iconst 2, 1) := by decide +kernel
theorem dL_law_133 : decode cL_law 133 = .ok (.iadd, 1) := by decide +kernel
theorem dL_law_134 : decode cL_law 134 = .ok (.iaload, 1) := by decide +kernel
theorem dL_law_135 : decode cL_law 135 = .ok (.invokevirtual 13, 3) := by decide +kernel
theorem dL_law_138 : decode cL_law 138 = .ok (.aload_n 2, 1) := by decide +kernel
theorem dL_law_139 : decode cL_law 139 = .ok (.aload_n 0, 1) := by decide +kernel
theorem dL_law_140 : decode cL_law 140 = .ok (.iload_n 3, 1) := by decide +kernel
theorem dL_law_141 : decode cL_law 141 = .ok (.iconst 1, 1) := by decide +kernel
theorem dL_law_142 : decode cL_law 142 = .ok (.iadd, 1) := by decide +kernel
theorem dL_law_143 : decode cL_law 143 = .ok (.iaload, 1) := by decide +kernel
theorem dL_law_144 : decode cL_law 144 = .ok (.aload_n 0, 1) := by decide +kernel
theorem dL_law_145 : decode cL_law 145 = .ok (.iload_n 3, 1) := by decide +kernel
theorem dL_law_146 : decode cL_law 146 = .ok (.iconst 2, 1) := by decide +kernel
theorem dL_law_147 : decode cL_law 147 = .ok (.iadd, 1) := by decide +kernel
theorem dL_law_148 : decode cL_law 148 = .ok (.iaload, 1) := by decide +kernel
theorem dL_law_149 : decode cL_law 149 = .ok (.invokevirtual 17, 3) := by decide +kernel
theorem dL_law_152 : decode cL_law 152 = .ok (.if_icmp .eq 429, 3) := by decide +kernel
theorem dL_law_155 : decode cL_law 155 = .ok (.iconst 0, 1) := by decide +kernel
theorem dL_law_156 : decode cL_law 156 = .ok (.ireturn, 1) := by decide +kernel
theorem dL_law_157 : decode cL_law 157 = .ok (.aload_n 1, 1) := by decide +kernel
theorem dL_law_158 : decode cL_law 158 = .ok (.aload_n 0, 1) := by decide +kernel
theorem dL_law_159 : decode cL_law 159 = .ok (.iload_n 3, 1) := by decide +kernel
theorem dL_law_160 : decode cL_law 160 = .ok (.iconst 1, 1) := by decide +kernel
theorem dL_law_161 : decode cL_law 161 = .ok (.iadd, 1) := by decide +kernel
theorem dL_law_162 : decode cL_law 162 = .ok (.iaload, 1) := by decide +kernel
theorem dL_law_163 : decode cL_law 163 = .ok (.aload_n 0, 1) := by decide +kernel
theorem dL_law_164 : decode cL_law 164 = .ok (.iload_n 3, 1) := by decide +kernel
theorem dL_law_165 : decode cL_law 165 = .ok (.iconst 2, 1) := by decide +kernel
theorem dL_law_166 : decode cL_law 166 = .ok (.iadd, 1) := by decide +kernel
theorem dL_law_167 : decode cL_law 167 = .ok (.iaload, 1) := by decide +kernel
theorem dL_law_168 : decode cL_law 168 = .ok (.invokevirtual 18, 3) := by decide +kernel
theorem dL_law_171 : decode cL_law 171 = .ok (.aload_n 2, 1) := by decide +kernel
theorem dL_law_172 : decode cL_law 172 = .ok (.aload_n 0, 1) := by decide +kernel
theorem dL_law_173 : decode cL_law 173 = .ok (.iload_n 3, 1) := by decide +kernel
theorem dL_law_174 : decode cL_law 174 = .ok (.iconst 1, 1) := by decide +kernel
theorem dL_law_175 : decode cL_law 175 = .ok (.iadd, 1) := by decide +kernel
theorem dL_law_176 : decode cL_law 176 = .ok (.iaload, 1) := by decide +kernel
theorem dL_law_177 : decode cL_law 177 = .ok (.aload_n 0, 1) := by decide +kernel
theorem dL_law_178 : decode cL_law 178 = .ok (.iload_n 3, 1) := by decide +kernel
theorem dL_law_179 : decode cL_law 179 = .ok (.iconst 2, 1) := by decide +kernel
theorem dL_law_180 : decode cL_law 180 = .ok (.iadd, 1) := by decide +kernel
theorem dL_law_181 : decode cL_law 181 = .ok (.iaload, 1) := by decide +kernel
theorem dL_law_182 : decode cL_law 182 = .ok (.invokevirtual 21, 3) := by decide +kernel
theorem dL_law_185 : decode cL_law 185 = .ok (.if_icmp .eq 396, 3) := by decide +kernel
theorem dL_law_188 : decode cL_law 188 = .ok (.iconst 0, 1) := by decide +kernel
theorem dL_law_189 : decode cL_law 189 = .ok (.ireturn, 1) := by decide +kernel
theorem dL_law_190 : decode cL_law 190 = .ok (.aload_n 1, 1) := by decide +kernel
theorem dL_law_191 : decode cL_law 191 = .ok (.aload_n 0, 1) := by decide +kernel
theorem dL_law_192 : decode cL_law 192 = .ok (.iload_n 3, 1) := by decide +kernel
theorem dL_law_193 : decode cL_law 193 = .ok (.iconst 1, 1) := by decide +kernel
theorem dL_law_194 : decode cL_law 194 = .ok (.iadd, 1) := by decide +kernel
theorem dL_law_195 : decode cL_law 195 = .ok (.iaload, 1) := by decide +kernel
theorem dL_law_196 : decode cL_law 196 = .ok (.aload_n 0, 1) := by decide +kernel
theorem dL_law_197 : decode cL_law 197 = .ok (.iload_n 3, 1) := by decide +kernel
theorem dL_law_198 : decode cL_law 198 = .ok (.iconst 2, 1) := by decide +kernel
theorem dL_law_199 : decode cL_law 199 = .ok (.iadd, 1) := by decide +kernel
theorem dL_law_200 : decode cL_law 200 = .ok (.iaload, 1) := by decide +kernel
theorem dL_law_201 : decode cL_law 201 = .ok (.invokevirtual 22, 3) := by decide +kernel
theorem dL_law_204 : decode cL_law 204 = .ok (.aload_n 2, 1) := by decide +kernel
theorem dL_law_205 : decode cL_law 205 = .ok (.aload_n 0, 1) := by decide +kernel
theorem dL_law_206 : decode cL_law 206 = .ok (.iload_n 3, 1) := by decide +kernel
theorem dL_law_207 : decode cL_law 207 = .ok (.iconst 1, 1) := by decide +kernel
theorem dL_law_208 : decode cL_law 208 = .ok (.iadd, 1) := by decide +kernel
theorem dL_law_209 : decode cL_law 209 = .ok (.iaload, 1) := by decide +kernel
theorem dL_law_210 : decode cL_law 210 = .ok (.aload_n 0, 1) := by decide +kernel
theorem dL_law_211 : decode cL_law 211 = .ok (.iload_n 3, 1) := by decide +kernel
theorem dL_law_212 : decode cL_law 212 = .ok (.iconst 2, 1) := by decide +kernel
theorem dL_law_213 : decode cL_law 213 = .ok (.iadd, 1) := by decide +kernel
theorem dL_law_214 : decode cL_law 214 = .ok (.iaload, 1) := by decide +kernel
theorem dL_law_215 : decode cL_law 215 = .ok (.invokevirtual 25, 3) := by decide +kernel
theorem dL_law_218 : decode cL_law 218 = .ok (.if_icmp .eq 363, 3) := by decide +kernel
theorem dL_law_221 : decode cL_law 221 = .ok (.iconst 0, 1) := by decide +kernel
theorem dL_law_222 : decode cL_law 222 = .ok (.ireturn, 1) := by decide +kernel
theorem dL_law_223 : decode cL_law 223 = .ok (.aload_n 1, 1) := by decide +kernel
theorem dL_law_224 : decode cL_law 224 = .ok (.invokevirtual 26, 3) := by decide +kernel
theorem dL_law_227 : decode cL_law 227 = .ok (.aload_n 2, 1) := by decide +kernel
theorem dL_law_228 : decode cL_law 228 = .ok (.invokevirtual 30, 3) := by decide +kernel
theorem dL_law_231 : decode cL_law 231 = .ok (.if_icmp .eq 350, 3) := by decide +kernel
theorem dL_law_234 : decode cL_law 234 = .ok (.iconst 0, 1) := by decide +kernel
theorem dL_law_235 : decode cL_law 235 = .ok (.ireturn, 1) := by decide +kernel
theorem dL_law_236 : decode cL_law 236 = .ok (.aload_n 1, 1) := by decide +kernel
theorem dL_law_237 : decode cL_law 237 = .ok (.invokevirtual 31, 3) := by decide +kernel
theorem dL_law_240 : decode cL_law 240 = .ok (.aload_n 2, 1) := by decide +kernel
theorem dL_law_241 : decode cL_law 241 = .ok (.invokevirtual 34, 3) := by decide +kernel
theorem dL_law_244 : decode cL_law 244 = .ok (.if_icmp .eq 337, 3) := by decide +kernel
theorem dL_law_247 : decode cL_law 247 = .ok (.iconst 0, 1) := by decide +kernel
theorem dL_law_248 : decode cL_law 248 = .ok (.ireturn, 1) := by decide +kernel
theorem dL_law_249 : decode cL_law 249 = .ok (.aload_n 1, 1) := by decide +kernel
theorem dL_law_250 : decode cL_law 250 = .ok (.aload_n 0, 1) := by decide +kernel
theorem dL_law_251 : decode cL_law 251 = .ok (.iload_n 3, 1) := by decide +kernel
theorem dL_law_252 : decode cL_law 252 = .ok (.iconst 1, 1) := by decide +kernel
theorem dL_law_253 : decode cL_law 253 = .ok (.iadd, 1) := by decide +kernel
theorem dL_law_254 : decode cL_law 254 = .ok (.iaload, 1) := by decide +kernel
theorem dL_law_255 : decode cL_law 255 = .ok (.aload_n 0, 1) := by decide +kernel
theorem dL_law_256 : decode cL_law 256 = .ok (.iload_n 3, 1) := by decide +kernel
theorem dL_law_257 : decode cL_law 257 = .ok (.iconst 2, 1) := by decide +kernel
theorem dL_law_258 : decode cL_law 258 = .ok (.iadd, 1) := by decide +kernel
theorem dL_law_259 : decode cL_law 259 = .ok (.iaload, 1) := by decide +kernel
theorem dL_law_260 : decode cL_law 260 = .ok (.invokevirtual 35, 3) := by decide +kernel
theorem dL_law_263 : decode cL_law 263 = .ok (.aload_n 2, 1) := by decide +kernel
theorem dL_law_264 : decode cL_law 264 = .ok (.aload_n 0, 1) := by decide +kernel
theorem dL_law_265 : decode cL_law 265 = .ok (.iload_n 3, 1) := by decide +kernel
theorem dL_law_266 : decode cL_law 266 = .ok (.iconst 1, 1) := by decide +kernel
theorem dL_law_267 : decode cL_law 267 = .ok (.iadd, 1) := by decide +kernel
theorem dL_law_268 : decode cL_law 268 = .ok (.iaload, 1) := by decide +kernel
theorem dL_law_269 : decode cL_law 269 = .ok (.aload_n 0, 1) := by decide +kernel
theorem dL_law_270 : decode cL_law 270 = .ok (.iload_n 3, 1) := by decide +kernel
theorem dL_law_271 : decode cL_law 271 = .ok (.iconst 2, 1) := by decide +kernel
theorem dL_law_272 : decode cL_law 272 = .ok (.iadd, 1) := by decide +kernel
theorem dL_law_273 : decode cL_law 273 = .ok (.iaload, 1) := by decide +kernel
theorem dL_law_274 : decode cL_law 274 = .ok (.invokevirtual 38, 3) := by decide +kernel
theorem dL_law_277 : decode cL_law 277 = .ok (.if_icmp .eq 304, 3) := by decide +kernel
theorem dL_law_280 : decode cL_law 280 = .ok (.iconst 0, 1) := by decide +kernel
theorem dL_law_281 : decode cL_law 281 = .ok (.ireturn, 1) := by decide +kernel
theorem dL_law_282 : decode cL_law 282 = .ok (.aload_n 1, 1) := by decide +kernel
theorem dL_law_283 : decode cL_law 283 = .ok (.aload_n 0, 1) := by decide +kernel
theorem dL_law_284 : decode cL_law 284 = .ok (.iload_n 3, 1) := by decide +kernel
theorem dL_law_285 : decode cL_law 285 = .ok (.iconst 1, 1) := by decide +kernel
theorem dL_law_286 : decode cL_law 286 = .ok (.iadd, 1) := by decide +kernel
theorem dL_law_287 : decode cL_law 287 = .ok (.iaload, 1) := by decide +kernel
theorem dL_law_288 : decode cL_law 288 = .ok (.invokevirtual 39, 3) := by decide +kernel
theorem dL_law_291 : decode cL_law 291 = .ok (.aload_n 2, 1) := by decide +kernel
theorem dL_law_292 : decode cL_law 292 = .ok (.aload_n 0, 1) := by decide +kernel
theorem dL_law_293 : decode cL_law 293 = .ok (.iload_n 3, 1) := by decide +kernel
theorem dL_law_294 : decode cL_law 294 = .ok (.iconst 1, 1) := by decide +kernel
theorem dL_law_295 : decode cL_law 295 = .ok (.iadd, 1) := by decide +kernel
theorem dL_law_296 : decode cL_law 296 = .ok (.iaload, 1) := by decide +kernel
theorem dL_law_297 : decode cL_law 297 = .ok (.invokevirtual 43, 3) := by decide +kernel
theorem dL_law_300 : decode cL_law 300 = .ok (.if_icmp .eq 281, 3) := by decide +kernel
theorem dL_law_303 : decode cL_law 303 = .ok (.iconst 0, 1) := by decide +kernel
theorem dL_law_304 : decode cL_law 304 = .ok (.ireturn, 1) := by decide +kernel
theorem dL_law_305 : decode cL_law 305 = .ok (.aload_n 1, 1) := by decide +kernel
theorem dL_law_306 : decode cL_law 306 = .ok (.aload_n 0, 1) := by decide +kernel
theorem dL_law_307 : decode cL_law 307 = .ok (.iload_n 3, 1) := by decide +kernel
theorem dL_law_308 : decode cL_law 308 = .ok (.iconst 1, 1) := by decide +kernel
theorem dL_law_309 : decode cL_law 309 = .ok (.iadd, 1) := by decide +kernel
theorem dL_law_310 : decode cL_law 310 = .ok (.iaload, 1) := by decide +kernel
theorem dL_law_311 : decode cL_law 311 = .ok (.aload_n 0, 1) := by decide +kernel
theorem dL_law_312 : decode cL_law 312 = .ok (.iload_n 3, 1) := by decide +kernel
theorem dL_law_313 : decode cL_law 313 = .ok (.iconst 2, 1) := by decide +kernel
theorem dL_law_314 : decode cL_law 314 = .ok (.iadd, 1) := by decide +kernel
theorem dL_law_315 : decode cL_law 315 = .ok (.iaload, 1) := by decide +kernel
theorem dL_law_316 : decode cL_law 316 = .ok (.invokevirtual 44, 3) := by decide +kernel
theorem dL_law_319 : decode cL_law 319 = .ok (.aload_n 2, 1) := by decide +kernel
theorem dL_law_320 : decode cL_law 320 = .ok (.aload_n 0, 1) := by decide +kernel
theorem dL_law_321 : decode cL_law 321 = .ok (.iload_n 3, 1) := by decide +kernel
theorem dL_law_322 : decode cL_law 322 = .ok (.iconst 1, 1) := by decide +kernel
theorem dL_law_323 : decode cL_law 323 = .ok (.iadd, 1) := by decide +kernel
theorem dL_law_324 : decode cL_law 324 = .ok (.iaload, 1) := by decide +kernel
theorem dL_law_325 : decode cL_law 325 = .ok (.aload_n 0, 1) := by decide +kernel
theorem dL_law_326 : decode cL_law 326 = .ok (.iload_n 3, 1) := by decide +kernel
theorem dL_law_327 : decode cL_law 327 = .ok (.iconst 2, 1) := by decide +kernel
theorem dL_law_328 : decode cL_law 328 = .ok (.iadd, 1) := by decide +kernel
theorem dL_law_329 : decode cL_law 329 = .ok (.iaload, 1) := by decide +kernel
theorem dL_law_330 : decode cL_law 330 = .ok (.invokevirtual 47, 3) := by decide +kernel
theorem dL_law_333 : decode cL_law 333 = .ok (.if_icmp .eq 248, 3) := by decide +kernel
theorem dL_law_336 : decode cL_law 336 = .ok (.iconst 0, 1) := by decide +kernel
theorem dL_law_337 : decode cL_law 337 = .ok (.ireturn, 1) := by decide +kernel
theorem dL_law_338 : decode cL_law 338 = .ok (.aload_n 1, 1) := by decide +kernel
theorem dL_law_339 : decode cL_law 339 = .ok (.aload_n 0, 1) := by decide +kernel
theorem dL_law_340 : decode cL_law 340 = .ok (.iload_n 3, 1) := by decide +kernel
theorem dL_law_341 : decode cL_law 341 = .ok (.iconst 1, 1) := by decide +kernel
theorem dL_law_342 : decode cL_law 342 = .ok (.iadd, 1) := by decide +kernel
theorem dL_law_343 : decode cL_law 343 = .ok (.iaload, 1) := by decide +kernel
theorem dL_law_344 : decode cL_law 344 = .ok (.aload_n 0, 1) := by decide +kernel
theorem dL_law_345 : decode cL_law 345 = .ok (.iload_n 3, 1) := by decide +kernel
theorem dL_law_346 : decode cL_law 346 = .ok (.iconst 2, 1) := by decide +kernel
theorem dL_law_347 : decode cL_law 347 = .ok (.iadd, 1) := by decide +kernel
theorem dL_law_348 : decode cL_law 348 = .ok (.iaload, 1) := by decide +kernel
theorem dL_law_349 : decode cL_law 349 = .ok (.invokevirtual 48, 3) := by decide +kernel
theorem dL_law_352 : decode cL_law 352 = .ok (.aload_n 2, 1) := by decide +kernel
theorem dL_law_353 : decode cL_law 353 = .ok (.aload_n 0, 1) := by decide +kernel
theorem dL_law_354 : decode cL_law 354 = .ok (.iload_n 3, 1) := by decide +kernel
theorem dL_law_355 : decode cL_law 355 = .ok (.iconst 1, 1) := by decide +kernel
theorem dL_law_356 : decode cL_law 356 = .ok (.iadd, 1) := by decide +kernel
theorem dL_law_357 : decode cL_law 357 = .ok (.iaload, 1) := by decide +kernel
theorem dL_law_358 : decode cL_law 358 = .ok (.aload_n 0, 1) := by decide +kernel
theorem dL_law_359 : decode cL_law 359 = .ok (.iload_n 3, 1) := by decide +kernel
theorem dL_law_360 : decode cL_law 360 = .ok (.iconst 2, 1) := by decide +kernel
theorem dL_law_361 : decode cL_law 361 = .ok (.iadd, 1) := by decide +kernel
theorem dL_law_362 : decode cL_law 362 = .ok (.iaload, 1) := by decide +kernel
theorem dL_law_363 : decode cL_law 363 = .ok (.invokevirtual 51, 3) := by decide +kernel
theorem dL_law_366 : decode cL_law 366 = .ok (.if_icmp .eq 215, 3) := by decide +kernel
theorem dL_law_369 : decode cL_law 369 = .ok (.iconst 0, 1) := by decide +kernel
theorem dL_law_370 : decode cL_law 370 = .ok (.ireturn, 1) := by decide +kernel
theorem dL_law_371 : decode cL_law 371 = .ok (.aload_n 1, 1) := by decide +kernel
theorem dL_law_372 : decode cL_law 372 = .ok (.invokevirtual 52, 3) := by decide +kernel
theorem dL_law_375 : decode cL_law 375 = .ok (.aload_n 2, 1) := by decide +kernel
theorem dL_law_376 : decode cL_law 376 = .ok (.invokevirtual 55, 3) := by decide +kernel
theorem dL_law_379 : decode cL_law 379 = .ok (.if_icmp .eq 202, 3) := by decide +kernel
theorem dL_law_382 : decode cL_law 382 = .ok (.iconst 0, 1) := by decide +kernel
theorem dL_law_383 : decode cL_law 383 = .ok (.ireturn, 1) := by decide +kernel
theorem dL_law_384 : decode cL_law 384 = .ok (.aload_n 1, 1) := by decide +kernel
theorem dL_law_385 : decode cL_law 385 = .ok (.aload_n 0, 1) := by decide +kernel
theorem dL_law_386 : decode cL_law 386 = .ok (.iload_n 3, 1) := by decide +kernel
theorem dL_law_387 : decode cL_law 387 = .ok (.iconst 1, 1) := by decide +kernel
theorem dL_law_388 : decode cL_law 388 = .ok (.iadd, 1) := by decide +kernel
theorem dL_law_389 : decode cL_law 389 = .ok (.iaload, 1) := by decide +kernel
theorem dL_law_390 : decode cL_law 390 = .ok (.invokevirtual 56, 3) := by decide +kernel
theorem dL_law_393 : decode cL_law 393 = .ok (.aload_n 2, 1) := by decide +kernel
theorem dL_law_394 : decode cL_law 394 = .ok (.aload_n 0, 1) := by decide +kernel
theorem dL_law_395 : decode cL_law 395 = .ok (.iload_n 3, 1) := by decide +kernel
theorem dL_law_396 : decode cL_law 396 = .ok (.iconst 1, 1) := by decide +kernel
theorem dL_law_397 : decode cL_law 397 = .ok (.iadd, 1) := by decide +kernel
theorem dL_law_398 : decode cL_law 398 = .ok (.iaload, 1) := by decide +kernel
theorem dL_law_399 : decode cL_law 399 = .ok (.invokevirtual 59, 3) := by decide +kernel
theorem dL_law_402 : decode cL_law 402 = .ok (.if_icmp .eq 179, 3) := by decide +kernel
theorem dL_law_405 : decode cL_law 405 = .ok (.iconst 0, 1) := by decide +kernel
theorem dL_law_406 : decode cL_law 406 = .ok (.ireturn, 1) := by decide +kernel
theorem dL_law_407 : decode cL_law 407 = .ok (.aload_n 1, 1) := by decide +kernel
theorem dL_law_408 : decode cL_law 408 = .ok (.invokevirtual 60, 3) := by decide +kernel
theorem dL_law_411 : decode cL_law 411 = .ok (.aload_n 2, 1) := by decide +kernel
theorem dL_law_412 : decode cL_law 412 = .ok (.invokevirtual 63, 3) := by decide +kernel
theorem dL_law_415 : decode cL_law 415 = .ok (.if_icmp .eq 166, 3) := by decide +kernel
theorem dL_law_418 : decode cL_law 418 = .ok (.iconst 0, 1) := by decide +kernel
theorem dL_law_419 : decode cL_law 419 = .ok (.ireturn, 1) := by decide +kernel
theorem dL_law_420 : decode cL_law 420 = .ok (.aload_n 1, 1) := by decide +kernel
theorem dL_law_421 : decode cL_law 421 = .ok (.aload_n 0, 1) := by decide +kernel
theorem dL_law_422 : decode cL_law 422 = .ok (.iload_n 3, 1) := by decide +kernel
theorem dL_law_423 : decode cL_law 423 = .ok (.iconst 1, 1) := by decide +kernel
theorem dL_law_424 : decode cL_law 424 = .ok (.iadd, 1) := by decide +kernel
theorem dL_law_425 : decode cL_law 425 = .ok (.iaload, 1) := by decide +kernel
theorem dL_law_426 : decode cL_law 426 = .ok (.invokevirtual 64, 3) := by decide +kernel
theorem dL_law_429 : decode cL_law 429 = .ok (.aload_n 2, 1) := by decide +kernel
theorem dL_law_430 : decode cL_law 430 = .ok (.aload_n 0, 1) := by decide +kernel
theorem dL_law_431 : decode cL_law 431 = .ok (.iload_n 3, 1) := by decide +kernel
theorem dL_law_432 : decode cL_law 432 = .ok (.iconst 1, 1) := by decide +kernel
theorem dL_law_433 : decode cL_law 433 = .ok (.iadd, 1) := by decide +kernel
theorem dL_law_434 : decode cL_law 434 = .ok (.iaload, 1) := by decide +kernel
theorem dL_law_435 : decode cL_law 435 = .ok (.invokevirtual 67, 3) := by decide +kernel
theorem dL_law_438 : decode cL_law 438 = .ok (.if_icmp .eq 143, 3) := by decide +kernel
theorem dL_law_441 : decode cL_law 441 = .ok (.iconst 0, 1) := by decide +kernel
theorem dL_law_442 : decode cL_law 442 = .ok (.ireturn, 1) := by decide +kernel
theorem dL_law_443 : decode cL_law 443 = .ok (.aload_n 1, 1) := by decide +kernel
theorem dL_law_444 : decode cL_law 444 = .ok (.aload_n 0, 1) := by decide +kernel
theorem dL_law_445 : decode cL_law 445 = .ok (.iload_n 3, 1) := by decide +kernel
theorem dL_law_446 : decode cL_law 446 = .ok (.iconst 1, 1) := by decide +kernel
theorem dL_law_447 : decode cL_law 447 = .ok (.iadd, 1) := by decide +kernel
theorem dL_law_448 : decode cL_law 448 = .ok (.iaload, 1) := by decide +kernel
theorem dL_law_449 : decode cL_law 449 = .ok (.i2l, 1) := by decide +kernel
theorem dL_law_450 : decode cL_law 450 = .ok (.bipush 32, 2) := by decide +kernel
theorem dL_law_452 : decode cL_law 452 = .ok (.lshl, 1) := by decide +kernel
theorem dL_law_453 : decode cL_law 453 = .ok (.aload_n 0, 1) := by decide +kernel
theorem dL_law_454 : decode cL_law 454 = .ok (.iload_n 3, 1) := by decide +kernel
theorem dL_law_455 : decode cL_law 455 = .ok (.iconst 2, 1) := by decide +kernel
theorem dL_law_456 : decode cL_law 456 = .ok (.iadd, 1) := by decide +kernel
theorem dL_law_457 : decode cL_law 457 = .ok (.iaload, 1) := by decide +kernel
theorem dL_law_458 : decode cL_law 458 = .ok (.i2l, 1) := by decide +kernel
theorem dL_law_459 : decode cL_law 459 = .ok (.ldc2_w 68, 3) := by decide +kernel
theorem dL_law_462 : decode cL_law 462 = .ok (.land, 1) := by decide +kernel
theorem dL_law_463 : decode cL_law 463 = .ok (.lor, 1) := by decide +kernel
theorem dL_law_464 : decode cL_law 464 = .ok (.invokevirtual 70, 3) := by decide +kernel
theorem dL_law_467 : decode cL_law 467 = .ok (.aload_n 2, 1) := by decide +kernel
theorem dL_law_468 : decode cL_law 468 = .ok (.aload_n 0, 1) := by decide +kernel
theorem dL_law_469 : decode cL_law 469 = .ok (.iload_n 3, 1) := by decide +kernel
theorem dL_law_470 : decode cL_law 470 = .ok (.iconst 1, 1) := by decide +kernel
theorem dL_law_471 : decode cL_law 471 = .ok (.iadd, 1) := by decide +kernel
theorem dL_law_472 : decode cL_law 472 = .ok (.iaload, 1) := by decide +kernel
theorem dL_law_473 : decode cL_law 473 = .ok (.i2l, 1) := by decide +kernel
theorem dL_law_474 : decode cL_law 474 = .ok (.bipush 32, 2) := by decide +kernel
theorem dL_law_476 : decode cL_law 476 = .ok (.lshl, 1) := by decide +kernel
theorem dL_law_477 : decode cL_law 477 = .ok (.aload_n 0, 1) := by decide +kernel
theorem dL_law_478 : decode cL_law 478 = .ok (.iload_n 3, 1) := by decide +kernel
theorem dL_law_479 : decode cL_law 479 = .ok (.iconst 2, 1) := by decide +kernel
theorem dL_law_480 : decode cL_law 480 = .ok (.iadd, 1) := by decide +kernel
theorem dL_law_481 : decode cL_law 481 = .ok (.iaload, 1) := by decide +kernel
theorem dL_law_482 : decode cL_law 482 = .ok (.i2l, 1) := by decide +kernel
theorem dL_law_483 : decode cL_law 483 = .ok (.ldc2_w 68, 3) := by decide +kernel
theorem dL_law_486 : decode cL_law 486 = .ok (.land, 1) := by decide +kernel
theorem dL_law_487 : decode cL_law 487 = .ok (.lor, 1) := by decide +kernel
theorem dL_law_488 : decode cL_law 488 = .ok (.invokevirtual 74, 3) := by decide +kernel
theorem dL_law_491 : decode cL_law 491 = .ok (.if_icmp .eq 90, 3) := by decide +kernel
theorem dL_law_494 : decode cL_law 494 = .ok (.iconst 0, 1) := by decide +kernel
theorem dL_law_495 : decode cL_law 495 = .ok (.ireturn, 1) := by decide +kernel
theorem dL_law_496 : decode cL_law 496 = .ok (.aload_n 1, 1) := by decide +kernel
theorem dL_law_497 : decode cL_law 497 = .ok (.invokevirtual 75, 3) := by decide +kernel
theorem dL_law_500 : decode cL_law 500 = .ok (.aload_n 2, 1) := by decide +kernel
theorem dL_law_501 : decode cL_law 501 = .ok (.invokevirtual 78, 3) := by decide +kernel
theorem dL_law_504 : decode cL_law 504 = .ok (.if_icmp .eq 77, 3) := by decide +kernel
theorem dL_law_507 : decode cL_law 507 = .ok (.iconst 0, 1) := by decide +kernel
theorem dL_law_508 : decode cL_law 508 = .ok (.ireturn, 1) := by decide +kernel
theorem dL_law_509 : decode cL_law 509 = .ok (.aload_n 1, 1) := by decide +kernel
theorem dL_law_510 : decode cL_law 510 = .ok (.invokevirtual 79, 3) := by decide +kernel
theorem dL_law_513 : decode cL_law 513 = .ok (.aload_n 2, 1) := by decide +kernel
theorem dL_law_514 : decode cL_law 514 = .ok (.invokevirtual 82, 3) := by decide +kernel
theorem dL_law_517 : decode cL_law 517 = .ok (.if_icmp .eq 64, 3) := by decide +kernel
theorem dL_law_520 : decode cL_law 520 = .ok (.iconst 0, 1) := by decide +kernel
theorem dL_law_521 : decode cL_law 521 = .ok (.ireturn, 1) := by decide +kernel
theorem dL_law_522 : decode cL_law 522 = .ok (.aload_n 1, 1) := by decide +kernel
theorem dL_law_523 : decode cL_law 523 = .ok (.invokevirtual 83, 3) := by decide +kernel
theorem dL_law_526 : decode cL_law 526 = .ok (.aload_n 2, 1) := by decide +kernel
theorem dL_law_527 : decode cL_law 527 = .ok (.invokevirtual 86, 3) := by decide +kernel
theorem dL_law_530 : decode cL_law 530 = .ok (.if_icmp .eq 51, 3) := by decide +kernel
theorem dL_law_533 : decode cL_law 533 = .ok (.iconst 0, 1) := by decide +kernel
theorem dL_law_534 : decode cL_law 534 = .ok (.ireturn, 1) := by decide +kernel
theorem dL_law_535 : decode cL_law 535 = .ok (.aload_n 1, 1) := by decide +kernel
theorem dL_law_536 : decode cL_law 536 = .ok (.aload_n 0, 1) := by decide +kernel
theorem dL_law_537 : decode cL_law 537 = .ok (.iload_n 3, 1) := by decide +kernel
theorem dL_law_538 : decode cL_law 538 = .ok (.iconst 1, 1) := by decide +kernel
theorem dL_law_539 : decode cL_law 539 = .ok (.iadd, 1) := by decide +kernel
theorem dL_law_540 : decode cL_law 540 = .ok (.iaload, 1) := by decide +kernel
theorem dL_law_541 : decode cL_law 541 = .ok (.invokevirtual 87, 3) := by decide +kernel
theorem dL_law_544 : decode cL_law 544 = .ok (.aload_n 2, 1) := by decide +kernel
theorem dL_law_545 : decode cL_law 545 = .ok (.aload_n 0, 1) := by decide +kernel
theorem dL_law_546 : decode cL_law 546 = .ok (.iload_n 3, 1) := by decide +kernel
theorem dL_law_547 : decode cL_law 547 = .ok (.iconst 1, 1) := by decide +kernel
theorem dL_law_548 : decode cL_law 548 = .ok (.iadd, 1) := by decide +kernel
theorem dL_law_549 : decode cL_law 549 = .ok (.iaload, 1) := by decide +kernel
theorem dL_law_550 : decode cL_law 550 = .ok (.invokevirtual 90, 3) := by decide +kernel
theorem dL_law_553 : decode cL_law 553 = .ok (.if_icmp .eq 28, 3) := by decide +kernel
theorem dL_law_556 : decode cL_law 556 = .ok (.iconst 0, 1) := by decide +kernel
theorem dL_law_557 : decode cL_law 557 = .ok (.ireturn, 1) := by decide +kernel
theorem dL_law_558 : decode cL_law 558 = .ok (.aload_n 1, 1) := by decide +kernel
theorem dL_law_559 : decode cL_law 559 = .ok (.aload_n 0, 1) := by decide +kernel
theorem dL_law_560 : decode cL_law 560 = .ok (.iload_n 3, 1) := by decide +kernel
theorem dL_law_561 : decode cL_law 561 = .ok (.iconst 1, 1) := by decide +kernel
theorem dL_law_562 : decode cL_law 562 = .ok (.iadd, 1) := by decide +kernel
theorem dL_law_563 : decode cL_law 563 = .ok (.iaload, 1) := by decide +kernel
theorem dL_law_564 : decode cL_law 564 = .ok (.invokevirtual 91, 3) := by decide +kernel
theorem dL_law_567 : decode cL_law 567 = .ok (.aload_n 2, 1) := by decide +kernel
theorem dL_law_568 : decode cL_law 568 = .ok (.aload_n 0, 1) := by decide +kernel
theorem dL_law_569 : decode cL_law 569 = .ok (.iload_n 3, 1) := by decide +kernel
theorem dL_law_570 : decode cL_law 570 = .ok (.iconst 1, 1) := by decide +kernel
theorem dL_law_571 : decode cL_law 571 = .ok (.iadd, 1) := by decide +kernel
theorem dL_law_572 : decode cL_law 572 = .ok (.iaload, 1) := by decide +kernel
theorem dL_law_573 : decode cL_law 573 = .ok (.invokevirtual 94, 3) := by decide +kernel
theorem dL_law_576 : decode cL_law 576 = .ok (.if_icmp .eq 5, 3) := by decide +kernel
theorem dL_law_579 : decode cL_law 579 = .ok (.iconst 0, 1) := by decide +kernel
theorem dL_law_580 : decode cL_law 580 = .ok (.ireturn, 1) := by decide +kernel
theorem dL_law_581 : decode cL_law 581 = .ok (.iinc 3 3, 3) := by decide +kernel
theorem dL_law_584 : decode cL_law 584 = .ok (.goto (-566), 3) := by decide +kernel
theorem dL_law_587 : decode cL_law 587 = .ok (.iconst 1, 1) := by decide +kernel
theorem dL_law_588 : decode cL_law 588 = .ok (.ireturn, 1) := by decide +kernel
end
section
/-! 05.spec: words for the states. A game is a row f of 19 numbers (settings 0..3, hand 4, first 5, rounds 6, hours 7 8, began 9 10, paid 11 12, took 13 14, won 15 16, clock 17, over 18) -/
def kI (x : Int) (S : pS) : Option Value → pS → Prop := fun r S' => r = some (.int (iI x)) ∧ S' = S
def kF (a : Nat) (S : pS) : Option Value → pS → Prop := fun r S' => r = some (.ref a) ∧ S' = S
def kN (T : pS) : Option Value → pS → Prop := fun r S' => r = none ∧ S' = T
def kIS (x : Int) (P : pS → Prop) : Option Value → pS → Prop := fun r S' => r = some (.int (iI x)) ∧ P S'
def kNS (P : pS → Prop) : Option Value → pS → Prop := fun r S' => r = none ∧ P S'
theorem kI_mk {x y : Int} {S : pS} (h : y = x) : kI x S (some (.int (iI y))) S := ⟨by rw [h], rfl⟩
theorem kIS_mk {x y : Int} {S : pS} {P : pS → Prop} (h : y = x) (hP : P S) : kIS x P (some (.int (iI y))) S := ⟨by rw [h], hP⟩
theorem kF_mk {a b : Nat} {S : pS} (h : b = a) : kF a S (some (.ref b)) S := ⟨by rw [h], rfl⟩
theorem kN_mk {S T : pS} (h : S = T) : kN T none S := ⟨rfl, h⟩
def bZ (P : Prop) [Decidable P] : Int := if P then 1 else 0
theorem bZ_t {P : Prop} [Decidable P] (h : P) : 1 = bZ P := (if_pos h).symm
theorem bZ_f {P : Prop} [Decidable P] (h : ¬ P) : 0 = bZ P := (if_neg h).symm
theorem bZ_0 {P : Prop} [Decidable P] (h : bZ P = 0) : ¬ P := fun q => by rw [← bZ_t q] at h; omega
theorem bZ_1 {P : Prop} [Decidable P] (h : ¬ bZ P = 0) : P := Decidable.byContradiction fun q => h (bZ_f q).symm
theorem bZ_lo (P : Prop) [Decidable P] : -2147483648 ≤ bZ P := by unfold bZ; split <;> decide
theorem bZ_hi (P : Prop) [Decidable P] : bZ P < 2147483648 := by unfold bZ; split <;> decide
theorem bZ_c {P P2 : Prop} [Decidable P] [Decidable P2] (h : P ↔ P2) : bZ P = bZ P2 := by unfold bZ; simp only [h]
theorem nar_bZ (P : Prop) [Decidable P] : narrow .boolean (.int (iI (bZ P))) = .int (iI (bZ P)) := by unfold bZ; split <;> rfl
theorem nar_b {x : Int} (h : x = 0 ∨ x = 1) : narrow .boolean (.int (iI x)) = .int (iI x) := by rcases h with rfl | rfl <;> rfl
theorem pu_pu (S : pS) (a : Nat) (e1 e2 : pE) : pu (pu S a e1) a e2 = pu S a e2 := by
  funext x
  unfold pu
  split <;> rfl
theorem pu_comm (S : pS) {a b : Nat} (e1 e2 : pE) (h : a ≠ b) : pu (pu S a e1) b e2 = pu (pu S b e2) a e1 := by
  funext x
  unfold pu
  by_cases ha : x = a
  · by_cases hb : x = b
    · exact absurd (ha.symm.trans hb) h
    · rw [if_neg hb, if_pos ha, if_pos ha]
  · by_cases hb : x = b
    · rw [if_pos hb, if_neg ha, if_pos hb]
    · rw [if_neg hb, if_neg ha, if_neg ha, if_neg hb]
theorem pu_id {S : pS} {a : Nat} {e : pE} (h : S a = some e) : pu S a e = S := by
  funext x
  unfold pu
  split
  · next q => rw [q, h]
  · rfl
theorem ne_S {S : pS} {a b : Nat} {x y : pE} (ha : S a = some x) (hb : S b = some y) (h : x ≠ y) : a ≠ b := fun q => h (by rw [q, hb] at ha; exact (Option.some.inj ha).symm)
theorem ne_ci {S : pS} {a b i j : Nat} {fs gs : List Value} (ha : S a = some (oO i fs)) (hb : S b = some (oO j gs)) (h : i ≠ j) : a ≠ b := ne_S ha hb (fun q => h (by cases q; rfl))
theorem ne_OI {S : pS} {a b i n : Nat} {fs : List Value} {f : Nat → Int32} (ha : S a = some (oO i fs)) (hb : S b = some (oI n f)) : a ≠ b := ne_S ha hb (fun q => by cases q)
theorem ne_IO {S : pS} {a b i n : Nat} {fs : List Value} {f : Nat → Int32} (hb : S b = some (oI n f)) (ha : S a = some (oO i fs)) : b ≠ a := (ne_OI ha hb).symm
theorem ne_OQ {S : pS} {a b i k n : Nat} {fs : List Value} {f : Nat → Option Nat} (ha : S a = some (oO i fs)) (hb : S b = some (oQ k n f)) : a ≠ b := ne_S ha hb (fun q => by cases q)
theorem ne_QO {S : pS} {a b i k n : Nat} {fs : List Value} {f : Nat → Option Nat} (hb : S b = some (oQ k n f)) (ha : S a = some (oO i fs)) : b ≠ a := (ne_OQ ha hb).symm
theorem ne_IQ {S : pS} {a b m k n : Nat} {g : Nat → Int32} {f : Nat → Option Nat} (ha : S a = some (oI m g)) (hb : S b = some (oQ k n f)) : a ≠ b := ne_S ha hb (fun q => by cases q)
theorem ne_QI {S : pS} {a b m k n : Nat} {g : Nat → Int32} {f : Nat → Option Nat} (hb : S b = some (oQ k n f)) (ha : S a = some (oI m g)) : b ≠ a := (ne_IQ ha hb).symm
theorem ne_II {S : pS} {a b m n : Nat} {g f : Nat → Int32} (ha : S a = some (oI m g)) (hb : S b = some (oI n f)) (h : m ≠ n) : a ≠ b := ne_S ha hb (fun q => h (by cases q; rfl))
theorem ne_QQ {S : pS} {a b j k m n : Nat} {g f : Nat → Option Nat} (ha : S a = some (oQ j m g)) (hb : S b = some (oQ k n f)) (h : j ≠ k) : a ≠ b := ne_S ha hb (fun q => h (by cases q; rfl))
theorem ne_N {S : pS} {a b : Nat} {x : pE} (ha : S a = some x) (hb : S b = none) : a ≠ b := fun q => by rw [q, hb] at ha; cases ha
abbrev gameO (f : Int → Int) (z o : Nat) : pE := oO 2 [.int (iI (f 0)), .int (iI (f 1)), .int (iI (f 2)), .int (iI (f 3)), .int (iI (f 4)), .int (iI (f 5)), .int (iI (f 6)), .int (iI (f 17)), .ref z, .ref o]
abbrev sdO (b h p t w : Int) : pE := oO 6 [.int (iI b), .int (iI h), .int (iI p), .int (iI t), .int (iI w)]
abbrev sdZ (f : Int → Int) : pE := sdO (f 9) (f 7) (f 11) (f 13) (f 15)
abbrev sdW (f : Int → Int) : pE := sdO (f 10) (f 8) (f 12) (f 14) (f 16)
def IsG (S : pS) (g z o : Nat) (f : Int → Int) : Prop := S g = some (gameO f z o) ∧ S z = some (sdZ f) ∧ S o = some (sdW f) ∧ z ≠ o
/-- what holds of every game that can come about -/
def okF (f : Int → Int) : Prop := (1 ≤ f 0 ∧ f 0 ≤ 3) ∧ (0 ≤ f 1 ∧ f 1 ≤ 2) ∧ (f 2 = 0 ∨ f 2 = 1) ∧ (f 3 = 0 ∨ f 3 = 1) ∧ (-f 0 ≤ f 4 ∧ f 4 ≤ f 0) ∧ (f 5 = 0 ∨ f 5 = 1) ∧ (-f 1 ≤ f 7 ∧ -f 1 ≤ f 8) ∧ (0 ≤ f 9 ∧ f 9 ≤ 6) ∧ (0 ≤ f 10 ∧ f 10 ≤ 6) ∧ f 7 + f 8 ≤ 12 ∧ (f 2 = 1 → f 7 ≤ 6 ∧ f 8 ≤ 6) ∧ f 18 = f 15 + f 16
def winE (e h : Int) : Int := if e ≤ h then 0 else if h ≤ -e then 1 else -1006
abbrev winF (f : Int → Int) : Int := winE (f 0) (f 4)
def hoF (f : Int → Int) (p : Int) : Int := if p = 0 then f 7 else f 8
def moF (f : Int → Int) (p : Int) : Int := hoF f p + f 1
def twF (f : Int → Int) (p : Int) : Int := if p = 0 then f 0 - f 4 else f 0 + f 4
def gaE (p x : Int) : Int := if p = 0 then x else 0
abbrev gaF (f : Int → Int) (x : Int) : Int := gaE (f 2) x
def tkF (f : Int → Int) (b a : Int) : Int := if a < b ∨ (b = a ∧ f 3 = 0) then f 5 else 1 - f 5
def alF (f : Int → Int) (b a : Int) : Prop := winF f = -1006 ∧ b ≤ moF f (f 5) ∧ a ≤ moF f (1 - f 5)
theorem moF_b {f : Int → Int} (ok : okF f) {p : Int} : 0 ≤ moF f p ∧ moF f p ≤ 16 := by
  obtain ⟨o0, o1, o2, o3, o4, o5, o7, o9, o10, o12, o13, -⟩ := ok
  unfold moF hoF
  split <;> omega
theorem winE_b (e h : Int) : winE e h = 0 ∨ winE e h = 1 ∨ winE e h = -1006 := by
  unfold winE
  split
  · exact Or.inl rfl
  · split
    · exact Or.inr (Or.inl rfl)
    · exact Or.inr (Or.inr rfl)
section JD
variable {y : MethodName} {cc : ByteArray} {nL : Nat} {rt : Option FieldType} {d tc ts : Nat} {K : Option Value → pS → Prop} {c0 s0 : Nat} {S : pS} {pc : Nat} {L : List (Option Value)} {st : List Value}
theorem J_L {L1 : List (Option Value)} (h : L = L1) (k : Jd y cc nL rt d tc ts K c0 s0 S pc L1 st) : Jd y cc nL rt d tc ts K c0 s0 S pc L st := by rw [h]; exact k
theorem J_S {S1 : pS} (h : S = S1) (k : Jd y cc nL rt d tc ts K c0 s0 S1 pc L st) : Jd y cc nL rt d tc ts K c0 s0 S pc L st := by rw [h]; exact k
variable {y1 : MethodName} {cc1 : ByteArray} {nL1 : Nat} {rt1 : Option FieldType} {d1 mc ms n : Nat} {As : List Value} {pc1 ix b ci N : Nat} {C : String} {T9 : u_T} {fs : List Value} {stk : List Value}
theorem J_callVI {x : Int} (hG : GoodIn wsU (wsV y.cls ix C y1 (.code y1 cc1 nL1 rt1 :: wsU))) (hy : y1.cls = C ∧ y1.cls ≠ "java/lang/invoke/MethodHandle" ∧ y1.cls ≠ "java/lang/invoke/VarHandle" ∧ (parseMethodDescriptor y1.desc).map (fun d => d.parameters.length) = some n) (hc : vwCl[ci]? = some (C, T9, N)) (hM : Ct y1 cc1 nL1 rt1 d1 mc ms (.ref b :: As) S (kI x S)) (hd : decode cc pc = .ok (.invokevirtual ix, 3)) (hp : pc + 3 = pc1) (ha : S b = some (oO ci fs)) (hst : stk = As.reverse ++ .ref b :: st) (hn : As.length = n) (hdd : d1 + 1 ≤ d) (hnl : nL1 ≤ 21) (hcc : c0 + mc ≤ tc) (hss : s0 + ms ≤ ts) (hrm : (st.map fun v => v.category).sum ≤ 8) (k : Jd y cc nL rt d tc ts K (c0 + mc) (s0 + ms) S pc1 L (.int (iI x) :: st)) : Jd y cc nL rt d tc ts K c0 s0 S pc L stk := J_callV hG hy hc hM hd hp ha hst hn hdd hnl hcc hss hrm (fun r S1 hr => by obtain ⟨rfl, rfl⟩ := hr; exact k)
theorem J_callVF {a : Nat} (hG : GoodIn wsU (wsV y.cls ix C y1 (.code y1 cc1 nL1 rt1 :: wsU))) (hy : y1.cls = C ∧ y1.cls ≠ "java/lang/invoke/MethodHandle" ∧ y1.cls ≠ "java/lang/invoke/VarHandle" ∧ (parseMethodDescriptor y1.desc).map (fun d => d.parameters.length) = some n) (hc : vwCl[ci]? = some (C, T9, N)) (hM : Ct y1 cc1 nL1 rt1 d1 mc ms (.ref b :: As) S (kF a S)) (hd : decode cc pc = .ok (.invokevirtual ix, 3)) (hp : pc + 3 = pc1) (ha : S b = some (oO ci fs)) (hst : stk = As.reverse ++ .ref b :: st) (hn : As.length = n) (hdd : d1 + 1 ≤ d) (hnl : nL1 ≤ 21) (hcc : c0 + mc ≤ tc) (hss : s0 + ms ≤ ts) (hrm : (st.map fun v => v.category).sum ≤ 8) (k : Jd y cc nL rt d tc ts K (c0 + mc) (s0 + ms) S pc1 L (.ref a :: st)) : Jd y cc nL rt d tc ts K c0 s0 S pc L stk := J_callV hG hy hc hM hd hp ha hst hn hdd hnl hcc hss hrm (fun r S1 hr => by obtain ⟨rfl, rfl⟩ := hr; exact k)
theorem J_callVN {T : pS} (hG : GoodIn wsU (wsV y.cls ix C y1 (.code y1 cc1 nL1 rt1 :: wsU))) (hy : y1.cls = C ∧ y1.cls ≠ "java/lang/invoke/MethodHandle" ∧ y1.cls ≠ "java/lang/invoke/VarHandle" ∧ (parseMethodDescriptor y1.desc).map (fun d => d.parameters.length) = some n) (hc : vwCl[ci]? = some (C, T9, N)) (hM : Ct y1 cc1 nL1 rt1 d1 mc ms (.ref b :: As) S (kN T)) (hd : decode cc pc = .ok (.invokevirtual ix, 3)) (hp : pc + 3 = pc1) (ha : S b = some (oO ci fs)) (hst : stk = As.reverse ++ .ref b :: st) (hn : As.length = n) (hdd : d1 + 1 ≤ d) (hnl : nL1 ≤ 21) (hcc : c0 + mc ≤ tc) (hss : s0 + ms ≤ ts) (hrm : (st.map fun v => v.category).sum ≤ 8) (k : Jd y cc nL rt d tc ts K (c0 + mc) (s0 + ms) T pc1 L st) : Jd y cc nL rt d tc ts K c0 s0 S pc L stk := J_callV hG hy hc hM hd hp ha hst hn hdd hnl hcc hss hrm (fun r S1 hr => by obtain ⟨rfl, rfl⟩ := hr; exact k)
theorem J_callVIs {x : Int} {P : pS → Prop} (hG : GoodIn wsU (wsV y.cls ix C y1 (.code y1 cc1 nL1 rt1 :: wsU))) (hy : y1.cls = C ∧ y1.cls ≠ "java/lang/invoke/MethodHandle" ∧ y1.cls ≠ "java/lang/invoke/VarHandle" ∧ (parseMethodDescriptor y1.desc).map (fun d => d.parameters.length) = some n) (hc : vwCl[ci]? = some (C, T9, N)) (hM : Ct y1 cc1 nL1 rt1 d1 mc ms (.ref b :: As) S (kIS x P)) (hd : decode cc pc = .ok (.invokevirtual ix, 3)) (hp : pc + 3 = pc1) (ha : S b = some (oO ci fs)) (hst : stk = As.reverse ++ .ref b :: st) (hn : As.length = n) (hdd : d1 + 1 ≤ d) (hnl : nL1 ≤ 21) (hcc : c0 + mc ≤ tc) (hss : s0 + ms ≤ ts) (hrm : (st.map fun v => v.category).sum ≤ 8) (k : ∀ S1, P S1 → Jd y cc nL rt d tc ts K (c0 + mc) (s0 + ms) S1 pc1 L (.int (iI x) :: st)) : Jd y cc nL rt d tc ts K c0 s0 S pc L stk := J_callV hG hy hc hM hd hp ha hst hn hdd hnl hcc hss hrm (fun r S1 hr => by obtain ⟨rfl, hr⟩ := hr; exact k S1 hr)
theorem J_callVNs {P : pS → Prop} (hG : GoodIn wsU (wsV y.cls ix C y1 (.code y1 cc1 nL1 rt1 :: wsU))) (hy : y1.cls = C ∧ y1.cls ≠ "java/lang/invoke/MethodHandle" ∧ y1.cls ≠ "java/lang/invoke/VarHandle" ∧ (parseMethodDescriptor y1.desc).map (fun d => d.parameters.length) = some n) (hc : vwCl[ci]? = some (C, T9, N)) (hM : Ct y1 cc1 nL1 rt1 d1 mc ms (.ref b :: As) S (kNS P)) (hd : decode cc pc = .ok (.invokevirtual ix, 3)) (hp : pc + 3 = pc1) (ha : S b = some (oO ci fs)) (hst : stk = As.reverse ++ .ref b :: st) (hn : As.length = n) (hdd : d1 + 1 ≤ d) (hnl : nL1 ≤ 21) (hcc : c0 + mc ≤ tc) (hss : s0 + ms ≤ ts) (hrm : (st.map fun v => v.category).sum ≤ 8) (k : ∀ S1, P S1 → Jd y cc nL rt d tc ts K (c0 + mc) (s0 + ms) S1 pc1 L st) : Jd y cc nL rt d tc ts K c0 s0 S pc L stk := J_callV hG hy hc hM hd hp ha hst hn hdd hnl hcc hss hrm (fun r S1 hr => by obtain ⟨rfl, hr⟩ := hr; exact k S1 hr)
theorem J_callSI {x : Int} (hG : GoodIn wsU (wsS y.cls ix y1 (.code y1 cc1 nL1 rt1 :: wsU))) (hy : y1.cls = y.cls ∧ y1.cls ≠ "java/lang/invoke/MethodHandle" ∧ y1.cls ≠ "java/lang/invoke/VarHandle" ∧ (parseMethodDescriptor y1.desc).map (fun d => d.parameters.length) = some n) (hM : Ct y1 cc1 nL1 rt1 d1 mc ms As S (kI x S)) (hd : decode cc pc = .ok (.invokestatic ix, 3)) (hp : pc + 3 = pc1) (hst : stk = As.reverse ++ st) (hn : As.length = n) (hdd : d1 + 1 ≤ d) (hnl : nL1 ≤ 21) (hcc : c0 + mc ≤ tc) (hss : s0 + ms ≤ ts) (hrm : (st.map fun v => v.category).sum ≤ 8) (k : Jd y cc nL rt d tc ts K (c0 + mc) (s0 + ms) S pc1 L (.int (iI x) :: st)) : Jd y cc nL rt d tc ts K c0 s0 S pc L stk := J_callS hG hy hM hd hp hst hn hdd hnl hcc hss hrm (fun r S1 hr => by obtain ⟨rfl, rfl⟩ := hr; exact k)
theorem J_callSF {a : Nat} (hG : GoodIn wsU (wsS y.cls ix y1 (.code y1 cc1 nL1 rt1 :: wsU))) (hy : y1.cls = y.cls ∧ y1.cls ≠ "java/lang/invoke/MethodHandle" ∧ y1.cls ≠ "java/lang/invoke/VarHandle" ∧ (parseMethodDescriptor y1.desc).map (fun d => d.parameters.length) = some n) (hM : Ct y1 cc1 nL1 rt1 d1 mc ms As S (kF a S)) (hd : decode cc pc = .ok (.invokestatic ix, 3)) (hp : pc + 3 = pc1) (hst : stk = As.reverse ++ st) (hn : As.length = n) (hdd : d1 + 1 ≤ d) (hnl : nL1 ≤ 21) (hcc : c0 + mc ≤ tc) (hss : s0 + ms ≤ ts) (hrm : (st.map fun v => v.category).sum ≤ 8) (k : Jd y cc nL rt d tc ts K (c0 + mc) (s0 + ms) S pc1 L (.ref a :: st)) : Jd y cc nL rt d tc ts K c0 s0 S pc L stk := J_callS hG hy hM hd hp hst hn hdd hnl hcc hss hrm (fun r S1 hr => by obtain ⟨rfl, rfl⟩ := hr; exact k)
theorem J_callSN {T : pS} (hG : GoodIn wsU (wsS y.cls ix y1 (.code y1 cc1 nL1 rt1 :: wsU))) (hy : y1.cls = y.cls ∧ y1.cls ≠ "java/lang/invoke/MethodHandle" ∧ y1.cls ≠ "java/lang/invoke/VarHandle" ∧ (parseMethodDescriptor y1.desc).map (fun d => d.parameters.length) = some n) (hM : Ct y1 cc1 nL1 rt1 d1 mc ms As S (kN T)) (hd : decode cc pc = .ok (.invokestatic ix, 3)) (hp : pc + 3 = pc1) (hst : stk = As.reverse ++ st) (hn : As.length = n) (hdd : d1 + 1 ≤ d) (hnl : nL1 ≤ 21) (hcc : c0 + mc ≤ tc) (hss : s0 + ms ≤ ts) (hrm : (st.map fun v => v.category).sum ≤ 8) (k : Jd y cc nL rt d tc ts K (c0 + mc) (s0 + ms) T pc1 L st) : Jd y cc nL rt d tc ts K c0 s0 S pc L stk := J_callS hG hy hM hd hp hst hn hdd hnl hcc hss hrm (fun r S1 hr => by obtain ⟨rfl, rfl⟩ := hr; exact k)
theorem J_callSIs {x : Int} {P : pS → Prop} (hG : GoodIn wsU (wsS y.cls ix y1 (.code y1 cc1 nL1 rt1 :: wsU))) (hy : y1.cls = y.cls ∧ y1.cls ≠ "java/lang/invoke/MethodHandle" ∧ y1.cls ≠ "java/lang/invoke/VarHandle" ∧ (parseMethodDescriptor y1.desc).map (fun d => d.parameters.length) = some n) (hM : Ct y1 cc1 nL1 rt1 d1 mc ms As S (kIS x P)) (hd : decode cc pc = .ok (.invokestatic ix, 3)) (hp : pc + 3 = pc1) (hst : stk = As.reverse ++ st) (hn : As.length = n) (hdd : d1 + 1 ≤ d) (hnl : nL1 ≤ 21) (hcc : c0 + mc ≤ tc) (hss : s0 + ms ≤ ts) (hrm : (st.map fun v => v.category).sum ≤ 8) (k : ∀ S1, P S1 → Jd y cc nL rt d tc ts K (c0 + mc) (s0 + ms) S1 pc1 L (.int (iI x) :: st)) : Jd y cc nL rt d tc ts K c0 s0 S pc L stk := J_callS hG hy hM hd hp hst hn hdd hnl hcc hss hrm (fun r S1 hr => by obtain ⟨rfl, hr⟩ := hr; exact k S1 hr)
theorem J_callSNs {P : pS → Prop} (hG : GoodIn wsU (wsS y.cls ix y1 (.code y1 cc1 nL1 rt1 :: wsU))) (hy : y1.cls = y.cls ∧ y1.cls ≠ "java/lang/invoke/MethodHandle" ∧ y1.cls ≠ "java/lang/invoke/VarHandle" ∧ (parseMethodDescriptor y1.desc).map (fun d => d.parameters.length) = some n) (hM : Ct y1 cc1 nL1 rt1 d1 mc ms As S (kNS P)) (hd : decode cc pc = .ok (.invokestatic ix, 3)) (hp : pc + 3 = pc1) (hst : stk = As.reverse ++ st) (hn : As.length = n) (hdd : d1 + 1 ≤ d) (hnl : nL1 ≤ 21) (hcc : c0 + mc ≤ tc) (hss : s0 + ms ≤ ts) (hrm : (st.map fun v => v.category).sum ≤ 8) (k : ∀ S1, P S1 → Jd y cc nL rt d tc ts K (c0 + mc) (s0 + ms) S1 pc1 L st) : Jd y cc nL rt d tc ts K c0 s0 S pc L stk := J_callS hG hy hM hd hp hst hn hdd hnl hcc hss hrm (fun r S1 hr => by obtain ⟨rfl, hr⟩ := hr; exact k S1 hr)
theorem J_callI_N {T : pS} (hG : GoodIn wsU (.code y1 cc1 nL1 none :: wsU)) (hy : y1.name = "<init>" ∧ y1.cls ≠ "java/lang/invoke/MethodHandle" ∧ y1.cls ≠ "java/lang/invoke/VarHandle" ∧ (parseMethodDescriptor y1.desc).map (fun d => d.parameters.length) = some n) (hw1 : Cond.initialized y1.cls ∈ wsU) (hw2 : Cond.methodLink y.cls ix y1 ∈ wsU) (hw3 : Cond.instanceMethod y1 ∈ wsU) (hM : Ct y1 cc1 nL1 none d1 mc ms (.ref b :: As) S (kN T)) (hd : decode cc pc = .ok (.invokespecial ix, 3)) (hp : pc + 3 = pc1) (hst : stk = As.reverse ++ .ref b :: st) (hn : As.length = n) (hdd : d1 + 1 ≤ d) (hnl : nL1 ≤ 21) (hcc : c0 + mc ≤ tc) (hss : s0 + ms ≤ ts) (hrm : (st.map fun v => v.category).sum ≤ 8) (k : Jd y cc nL rt d tc ts K (c0 + mc) (s0 + ms) T pc1 L st) : Jd y cc nL rt d tc ts K c0 s0 S pc L stk := J_callI hG hy hw1 hw2 hw3 hM hd hp hst hn hdd hnl hcc hss hrm (fun r S1 hr => by obtain ⟨rfl, rfl⟩ := hr; exact k)
theorem J_callI_Ns {P : pS → Prop} (hG : GoodIn wsU (.code y1 cc1 nL1 none :: wsU)) (hy : y1.name = "<init>" ∧ y1.cls ≠ "java/lang/invoke/MethodHandle" ∧ y1.cls ≠ "java/lang/invoke/VarHandle" ∧ (parseMethodDescriptor y1.desc).map (fun d => d.parameters.length) = some n) (hw1 : Cond.initialized y1.cls ∈ wsU) (hw2 : Cond.methodLink y.cls ix y1 ∈ wsU) (hw3 : Cond.instanceMethod y1 ∈ wsU) (hM : Ct y1 cc1 nL1 none d1 mc ms (.ref b :: As) S (kNS P)) (hd : decode cc pc = .ok (.invokespecial ix, 3)) (hp : pc + 3 = pc1) (hst : stk = As.reverse ++ .ref b :: st) (hn : As.length = n) (hdd : d1 + 1 ≤ d) (hnl : nL1 ≤ 21) (hcc : c0 + mc ≤ tc) (hss : s0 + ms ≤ ts) (hrm : (st.map fun v => v.category).sum ≤ 8) (k : ∀ S1, P S1 → Jd y cc nL rt d tc ts K (c0 + mc) (s0 + ms) S1 pc1 L st) : Jd y cc nL rt d tc ts K c0 s0 S pc L stk := J_callI hG hy hw1 hw2 hw3 hM hd hp hst hn hdd hnl hcc hss hrm (fun r S1 hr => by obtain ⟨rfl, hr⟩ := hr; exact k S1 hr)
theorem J_callIN_N {T : pS} (hG : GoodIn wsU (.code y1 cc1 nL1 none :: wsU)) (hy : y1.name = "<init>" ∧ y1.cls ≠ "java/lang/invoke/MethodHandle" ∧ y1.cls ≠ "java/lang/invoke/VarHandle" ∧ (parseMethodDescriptor y1.desc).map (fun d => d.parameters.length) = some n) (hw1 : Cond.initialized y1.cls ∈ wsU) {host : String} (hw2 : (y.cls, ix, y1, host) ∈ nestL) (hw3 : Cond.instanceMethod y1 ∈ wsU) (hM : Ct y1 cc1 nL1 none d1 mc ms (.ref b :: As) S (kN T)) (hd : decode cc pc = .ok (.invokespecial ix, 3)) (hp : pc + 3 = pc1) (hst : stk = As.reverse ++ .ref b :: st) (hn : As.length = n) (hdd : d1 + 1 ≤ d) (hnl : nL1 ≤ 21) (hcc : c0 + mc ≤ tc) (hss : s0 + ms ≤ ts) (hrm : (st.map fun v => v.category).sum ≤ 8) (k : Jd y cc nL rt d tc ts K (c0 + mc) (s0 + ms) T pc1 L st) : Jd y cc nL rt d tc ts K c0 s0 S pc L stk := J_callIN hG hy hw1 hw2 hw3 hM hd hp hst hn hdd hnl hcc hss hrm (fun r S1 hr => by obtain ⟨rfl, rfl⟩ := hr; exact k)
theorem J_callIN_Ns {P : pS → Prop} (hG : GoodIn wsU (.code y1 cc1 nL1 none :: wsU)) (hy : y1.name = "<init>" ∧ y1.cls ≠ "java/lang/invoke/MethodHandle" ∧ y1.cls ≠ "java/lang/invoke/VarHandle" ∧ (parseMethodDescriptor y1.desc).map (fun d => d.parameters.length) = some n) (hw1 : Cond.initialized y1.cls ∈ wsU) {host : String} (hw2 : (y.cls, ix, y1, host) ∈ nestL) (hw3 : Cond.instanceMethod y1 ∈ wsU) (hM : Ct y1 cc1 nL1 none d1 mc ms (.ref b :: As) S (kNS P)) (hd : decode cc pc = .ok (.invokespecial ix, 3)) (hp : pc + 3 = pc1) (hst : stk = As.reverse ++ .ref b :: st) (hn : As.length = n) (hdd : d1 + 1 ≤ d) (hnl : nL1 ≤ 21) (hcc : c0 + mc ≤ tc) (hss : s0 + ms ≤ ts) (hrm : (st.map fun v => v.category).sum ≤ 8) (k : ∀ S1, P S1 → Jd y cc nL rt d tc ts K (c0 + mc) (s0 + ms) S1 pc1 L st) : Jd y cc nL rt d tc ts K c0 s0 S pc L stk := J_callIN hG hy hw1 hw2 hw3 hM hd hp hst hn hdd hnl hcc hss hrm (fun r S1 hr => by obtain ⟨rfl, hr⟩ := hr; exact k S1 hr)
theorem J_iaddE {a b z : Int} (hz : a + b = z) (hd : decode cc pc = .ok (.iadd, 1)) (hp : pc + 1 = pc1) (k : Jd y cc nL rt d tc ts K c0 s0 S pc1 L (.int (iI z) :: st)) : Jd y cc nL rt d tc ts K c0 s0 S pc L (.int (iI b) :: .int (iI a) :: st) := J_iadd hd hp (by rw [hz]; exact k)
theorem J_isubE {a b z : Int} (hz : a - b = z) (hd : decode cc pc = .ok (.isub, 1)) (hp : pc + 1 = pc1) (k : Jd y cc nL rt d tc ts K c0 s0 S pc1 L (.int (iI z) :: st)) : Jd y cc nL rt d tc ts K c0 s0 S pc L (.int (iI b) :: .int (iI a) :: st) := J_isub hd hp (by rw [hz]; exact k)
theorem J_imulE {a b z : Int} (hz : a * b = z) (hd : decode cc pc = .ok (.imul, 1)) (hp : pc + 1 = pc1) (k : Jd y cc nL rt d tc ts K c0 s0 S pc1 L (.int (iI z) :: st)) : Jd y cc nL rt d tc ts K c0 s0 S pc L (.int (iI b) :: .int (iI a) :: st) := J_imul hd hp (by rw [hz]; exact k)
end JD
theorem df_X0 : ∀ j, j < 1 → defaultValue (tyX0 j) = vp_V [.null] j := fun j hj => match j, hj with | 0, _ => rfl | (j + 1), h => absurd h (by omega)
theorem df_X1 : ∀ j, j < 1 → defaultValue (tyX1 j) = vp_V [.null] j := fun j hj => match j, hj with | 0, _ => rfl | (j + 1), h => absurd h (by omega)
theorem df_X2 : ∀ j, j < 10 → defaultValue (tyX2 j) = vp_V [.int (iI 0), .int (iI 0), .int (iI 0), .int (iI 0), .int (iI 0), .int (iI 0), .int (iI 0), .int (iI 0), .null, .null] j := fun j hj => match j, hj with | 0, _ => rfl | 1, _ => rfl | 2, _ => rfl | 3, _ => rfl | 4, _ => rfl | 5, _ => rfl | 6, _ => rfl | 7, _ => rfl | 8, _ => rfl | 9, _ => rfl | (j + 10), h => absurd h (by omega)
theorem df_X3 : ∀ j, j < 2 → defaultValue (tyX3 j) = vp_V [.null, .int (iI 0)] j := fun j hj => match j, hj with | 0, _ => rfl | 1, _ => rfl | (j + 2), h => absurd h (by omega)
theorem df_X4 : ∀ j, j < 1 → defaultValue (tyX4 j) = vp_V [.null] j := fun j hj => match j, hj with | 0, _ => rfl | (j + 1), h => absurd h (by omega)
theorem df_X5 : ∀ j, j < 2 → defaultValue (tyX5 j) = vp_V [.null, .int (iI 0)] j := fun j hj => match j, hj with | 0, _ => rfl | 1, _ => rfl | (j + 2), h => absurd h (by omega)
theorem df_X6 : ∀ j, j < 5 → defaultValue (tyX6 j) = vp_V [.int (iI 0), .int (iI 0), .int (iI 0), .int (iI 0), .int (iI 0)] j := fun j hj => match j, hj with | 0, _ => rfl | 1, _ => rfl | 2, _ => rfl | 3, _ => rfl | 4, _ => rfl | (j + 5), h => absurd h (by omega)
theorem df_X7 : ∀ j, j < 2 → defaultValue (tyX7 j) = vp_V [.null, .int (iI 0)] j := fun j hj => match j, hj with | 0, _ => rfl | 1, _ => rfl | (j + 2), h => absurd h (by omega)
theorem df_X8 : ∀ j, j < 7 → defaultValue (tyX8 j) = vp_V [.int (iI 0), .int (iI 0), .int (iI 0), .int (iI 0), .null, .null, .null] j := fun j hj => match j, hj with | 0, _ => rfl | 1, _ => rfl | 2, _ => rfl | 3, _ => rfl | 4, _ => rfl | 5, _ => rfl | 6, _ => rfl | (j + 7), h => absurd h (by omega)
theorem df_X9 : ∀ j, j < 8 → defaultValue (tyX9 j) = vp_V [.null, .null, .null, .null, .null, .null, .null, .null] j := fun j hj => match j, hj with | 0, _ => rfl | 1, _ => rfl | 2, _ => rfl | 3, _ => rfl | 4, _ => rfl | 5, _ => rfl | 6, _ => rfl | 7, _ => rfl | (j + 8), h => absurd h (by omega)
theorem df_X10 : ∀ j, j < 15 → defaultValue (tyX10 j) = vp_V [.null, .null, .int (iI 0), .null, .null, .null, .int (iI 0), .int (iI 0), .int (iI 0), .null, .int (iI 0), .int (iI 0), .int (iI 0), .null, .int (iI 0)] j := fun j hj => match j, hj with | 0, _ => rfl | 1, _ => rfl | 2, _ => rfl | 3, _ => rfl | 4, _ => rfl | 5, _ => rfl | 6, _ => rfl | 7, _ => rfl | 8, _ => rfl | 9, _ => rfl | 10, _ => rfl | 11, _ => rfl | 12, _ => rfl | 13, _ => rfl | 14, _ => rfl | (j + 15), h => absurd h (by omega)
theorem pu_none {S : pS} {a b : Nat} {e : pE} (h : pu S a e b = none) : S b = none ∧ b ≠ a := by
  by_cases q : b = a
  · rw [q, pu_self] at h; cases h
  · rw [pu_ne _ _ q] at h; exact ⟨h, q⟩
end
section
/-! 05m.math: forced wins. A state is seen by one player: tw cells to its end, it may bid o, the other one f, b = 1 if it bids first. E: END, ti: TIE, ps: PAYS -/
noncomputable def bC (P : Prop) : Int := @ite _ P (Classical.propDecidable P) 1 0
theorem bC_t {P : Prop} (h : P) : bC P = 1 := if_pos h
theorem bC_f {P : Prop} (h : ¬ P) : bC P = 0 := if_neg h
theorem bC_01 (P : Prop) : bC P = 0 ∨ bC P = 1 := by
  rcases Classical.em P with h | h
  · exact Or.inr (bC_t h)
  · exact Or.inl (bC_f h)
theorem bC_lo (P : Prop) : -2147483648 ≤ bC P := by have := bC_01 P; omega
theorem bC_hi (P : Prop) : bC P < 2147483648 := by have := bC_01 P; omega
theorem bC_0 {P : Prop} (h : bC P = 0) : ¬ P := fun q => by rw [bC_t q] at h; omega
theorem bC_1 {P : Prop} (h : ¬ bC P = 0) : P := Classical.byContradiction fun q => h (bC_f q)
theorem bC_c {P Q : Prop} (h : P ↔ Q) : bC P = bC Q := by rw [propext h]
theorem bZ_bC (P : Prop) [Decidable P] : bZ P = bC P := by
  rcases Classical.em P with h | h
  · rw [bC_t h, ← bZ_t h]
  · rw [bC_f h, ← bZ_f h]
theorem nar_bC (P : Prop) : narrow .boolean (.int (iI (bC P))) = .int (iI (bC P)) := nar_b (bC_01 P)
def mx (x y : Int) : Int := if x < y then y else x
def mn (x y : Int) : Int := if y < x then y else x
abbrev qP : Type := Int → Int → Int → Int → Prop
def tkP (ps : Int) (P : qP) (tw o f p b : Int) : Prop := P (tw - 1) (o - p) (f + gaE ps p) b
def lsP (ps : Int) (P : qP) (tw o f p b : Int) : Prop := P (tw + 1) (o + gaE ps p) (f - p) b
def fst (ti bid ans : Int) : Prop := ans < bid ∨ (bid = ans ∧ ti = 0)
def bidP (ti ps : Int) (P : qP) (tw o f : Int) : Prop := ∃ bid, (0 ≤ bid ∧ bid ≤ o) ∧ ∀ ans, 0 ≤ ans → ans ≤ f → (fst ti bid ans → tkP ps P tw o f bid 0) ∧ (¬ fst ti bid ans → lsP ps P tw o f ans 0)
def ansP (ti ps : Int) (P : qP) (tw o f : Int) : Prop := ∀ bid, 0 ≤ bid → bid ≤ f → ∃ ans, (0 ≤ ans ∧ ans ≤ o) ∧ (fst ti bid ans → lsP ps P tw o f bid 1) ∧ (¬ fst ti bid ans → tkP ps P tw o f ans 1)
def stP (E ti ps : Int) (P : qP) : qP := fun tw o f b => tw ≤ 0 ∨ (tw < 2 * E ∧ (b = 1 → bidP ti ps P tw o f) ∧ (b = 0 → ansP ti ps P tw o f))
def fc (E ti ps : Int) : Nat → qP
  | 0 => fun tw _ _ _ => tw ≤ 0
  | k + 1 => stP E ti ps (fc E ti ps k)
theorem bidP_mono {ti ps : Int} {P Q : qP} {tw o f : Int} (hP : ∀ bid, 0 ≤ bid → bid ≤ o → tkP ps P tw o f bid 0 → tkP ps Q tw o f bid 0) (hL : ∀ ans, 0 ≤ ans → ans ≤ f → lsP ps P tw o f ans 0 → lsP ps Q tw o f ans 0) (h : bidP ti ps P tw o f) : bidP ti ps Q tw o f := by
  obtain ⟨bid, hb, h⟩ := h
  exact ⟨bid, hb, fun ans h1 h2 => ⟨fun q => hP bid hb.1 hb.2 ((h ans h1 h2).1 q), fun q => hL ans h1 h2 ((h ans h1 h2).2 q)⟩⟩
theorem ansP_mono {ti ps : Int} {P Q : qP} {tw o f : Int} (hP : ∀ ans, 0 ≤ ans → ans ≤ o → tkP ps P tw o f ans 1 → tkP ps Q tw o f ans 1) (hL : ∀ bid, 0 ≤ bid → bid ≤ f → lsP ps P tw o f bid 1 → lsP ps Q tw o f bid 1) (h : ansP ti ps P tw o f) : ansP ti ps Q tw o f := by
  intro bid h1 h2
  obtain ⟨ans, ha, g1, g2⟩ := h bid h1 h2
  exact ⟨ans, ha, fun q => hL bid h1 h2 (g1 q), fun q => hP ans ha.1 ha.2 (g2 q)⟩
/-- the states that can come of a sum (PAYS 0), or of a most (PAYS 1) -/
def vd (E ps top tw o f : Int) : Prop := 0 ≤ tw ∧ tw ≤ 2 * E ∧ 0 ≤ o ∧ 0 ≤ f ∧ (ps = 0 → o + f = top) ∧ (ps = 1 → o ≤ top ∧ f ≤ top)
theorem gaE0 {ps x : Int} (h : ps = 0) : gaE ps x = x := if_pos h
theorem gaE1 {ps x : Int} (h : ps = 1) : gaE ps x = 0 := if_neg (by omega)
theorem vd_tk {E ps top tw o f p : Int} (hps : ps = 0 ∨ ps = 1) (h : vd E ps top tw o f) (h0 : 0 < tw) (p0 : 0 ≤ p) (p1 : p ≤ o) : vd E ps top (tw - 1) (o - p) (f + gaE ps p) := by
  obtain ⟨h1, h2, h3, h4, h5, h6⟩ := h
  rcases hps with q | q
  · rw [gaE0 q]
    have := h5 q
    exact ⟨by omega, by omega, by omega, by omega, fun _ => by omega, fun z => by omega⟩
  · rw [gaE1 q]
    have := h6 q
    exact ⟨by omega, by omega, by omega, by omega, fun z => by omega, fun _ => by omega⟩
theorem vd_ls {E ps top tw o f p : Int} (hps : ps = 0 ∨ ps = 1) (h : vd E ps top tw o f) (h0 : tw < 2 * E) (p0 : 0 ≤ p) (p1 : p ≤ f) : vd E ps top (tw + 1) (o + gaE ps p) (f - p) := by
  obtain ⟨h1, h2, h3, h4, h5, h6⟩ := h
  rcases hps with q | q
  · rw [gaE0 q]
    have := h5 q
    exact ⟨by omega, by omega, by omega, by omega, fun _ => by omega, fun z => by omega⟩
  · rw [gaE1 q]
    have := h6 q
    exact ⟨by omega, by omega, by omega, by omega, fun z => by omega, fun _ => by omega⟩
/-- a step sees the states behind a round alone -/
theorem stP_mono {E ti ps top : Int} {P Q : qP} (hps : ps = 0 ∨ ps = 1) (hPQ : ∀ tw o f b, vd E ps top tw o f → (b = 0 ∨ b = 1) → P tw o f b → Q tw o f b) {tw o f b : Int} (hv : vd E ps top tw o f) (h : stP E ti ps P tw o f b) : stP E ti ps Q tw o f b := by
  rcases Classical.em (tw ≤ 0) with h0 | h0
  · exact Or.inl h0
  · rcases h with h | ⟨h1, h2, h3⟩
    · exact Or.inl h
    · refine Or.inr ⟨h1, fun q => bidP_mono ?_ ?_ (h2 q), fun q => ansP_mono ?_ ?_ (h3 q)⟩
      · exact fun x x0 x1 hx => hPQ _ _ _ _ (vd_tk hps hv (by omega) x0 x1) (Or.inl rfl) hx
      · exact fun x x0 x1 hx => hPQ _ _ _ _ (vd_ls hps hv h1 x0 x1) (Or.inl rfl) hx
      · exact fun x x0 x1 hx => hPQ _ _ _ _ (vd_tk hps hv (by omega) x0 x1) (Or.inr rfl) hx
      · exact fun x x0 x1 hx => hPQ _ _ _ _ (vd_ls hps hv h1 x0 x1) (Or.inr rfl) hx
theorem stP_c {E ti ps top : Int} {P Q : qP} (hps : ps = 0 ∨ ps = 1) (hPQ : ∀ tw o f b, vd E ps top tw o f → (b = 0 ∨ b = 1) → (P tw o f b ↔ Q tw o f b)) {tw o f b : Int} (hv : vd E ps top tw o f) : stP E ti ps P tw o f b ↔ stP E ti ps Q tw o f b :=
  ⟨stP_mono hps (fun a b c d v e => (hPQ a b c d v e).mp) hv, stP_mono hps (fun a b c d v e => (hPQ a b c d v e).mpr) hv⟩
theorem stP_all {E ti ps : Int} {P Q : qP} (hPQ : ∀ tw o f b, P tw o f b → Q tw o f b) {tw o f b : Int} (h : stP E ti ps P tw o f b) : stP E ti ps Q tw o f b := by
  rcases h with h | ⟨h1, h2, h3⟩
  · exact Or.inl h
  · exact Or.inr ⟨h1, fun q => bidP_mono (fun _ _ _ z => hPQ _ _ _ _ z) (fun _ _ _ z => hPQ _ _ _ _ z) (h2 q), fun q => ansP_mono (fun _ _ _ z => hPQ _ _ _ _ z) (fun _ _ _ z => hPQ _ _ _ _ z) (h3 q)⟩
theorem fc_succ {E ti ps : Int} : ∀ (k : Nat) (tw o f b : Int), fc E ti ps k tw o f b → fc E ti ps (k + 1) tw o f b := by
  intro k
  induction k with
  | zero => exact fun tw o f b h => Or.inl h
  | succ k ih => exact fun tw o f b h => stP_all (fun a b c d z => ih a b c d z) h
theorem fc_mono {E ti ps : Int} {j k : Nat} (h : j ≤ k) {tw o f b : Int} (hf : fc E ti ps j tw o f b) : fc E ti ps k tw o f b := by
  induction k with
  | zero => rw [Nat.le_zero.mp h] at hf; exact hf
  | succ k ih =>
    rcases Nat.lt_or_ge j (k + 1) with q | q
    · exact fc_succ k tw o f b (ih (by omega))
    · rw [show j = k + 1 by omega] at hf; exact hf
theorem fc_far {E ti ps : Int} : ∀ (k : Nat) (tw o f b : Int), 0 ≤ o → 0 ≤ f → (b = 0 ∨ b = 1) → (∀ z, 0 ≤ z → 0 ≤ gaE ps z) → fc E ti ps k tw o f b → tw ≤ k := by
  intro k
  induction k with
  | zero => exact fun tw o f b _ _ _ _ h => h
  | succ k ih =>
    intro tw o f b ho hf hb hg h
    rcases h with h | ⟨h1, h2, h3⟩
    · omega
    · rcases hb with rfl | rfl
      · obtain ⟨ans, ha, g1, g2⟩ := h3 rfl 0 (Int.le_refl 0) hf
        rcases Classical.em (fst ti 0 ans) with q | q
        · have := ih _ _ _ _ (by have := hg 0 (Int.le_refl 0); omega) (by omega) (Or.inr rfl) hg (g1 q); omega
        · have := ih _ _ _ _ (by omega) (by have := hg ans ha.1; omega) (Or.inr rfl) hg (g2 q); omega
      · obtain ⟨bid, hb, g⟩ := h2 rfl
        obtain ⟨g1, g2⟩ := g 0 (Int.le_refl 0) hf
        rcases Classical.em (fst ti bid 0) with q | q
        · have := ih _ _ _ _ (by omega) (by have := hg bid hb.1; omega) (Or.inl rfl) hg (g1 q); omega
        · have := ih _ _ _ _ (by have := hg 0 (Int.le_refl 0); omega) (by omega) (Or.inl rfl) hg (g2 q); omega
theorem gaE_nn (ps : Int) {z : Int} (h : 0 ≤ z) : 0 ≤ gaE ps z := by unfold gaE; split <;> omega
/-- where one round more forces nothing more, no number of rounds does -/
theorem fc_stab {E ti ps top : Int} (hps : ps = 0 ∨ ps = 1) {k : Nat} (h : ∀ tw o f b, vd E ps top tw o f → (b = 0 ∨ b = 1) → fc E ti ps (k + 1) tw o f b → fc E ti ps k tw o f b) : ∀ (m : Nat), k ≤ m → ∀ tw o f b, vd E ps top tw o f → (b = 0 ∨ b = 1) → fc E ti ps m tw o f b → fc E ti ps k tw o f b := by
  intro m
  induction m with
  | zero => intro hm tw o f b _ _ hf; rw [Nat.le_zero.mp hm]; exact hf
  | succ m ih =>
    intro hm tw o f b hv hb hf
    rcases Nat.lt_or_ge m k with q | q
    · rw [show k = m + 1 by omega]; exact hf
    · exact h tw o f b hv hb (stP_mono hps (fun a b c d v e z => ih q a b c d v e z) hv hf)
theorem bid_eq {ti ps : Int} {P : qP} {tw o f x : Int} (hti : ti = 0 ∨ ti = 1) (hf : 0 ≤ f) (hx : -1 ≤ x ∧ x ≤ f) (h1 : ∀ a, x < a → a ≤ f → lsP ps P tw o f a 0) (h2 : x = -1 ∨ ¬ lsP ps P tw o f x 0) :
    (∃ bid, (mx 0 (x + ti) ≤ bid ∧ bid ≤ o) ∧ ((bid = 0 ∧ ti = 1) ∨ tkP ps P tw o f bid 0)) ↔ bidP ti ps P tw o f := by
  have hm : 0 ≤ mx 0 (x + ti) ∧ x + ti ≤ mx 0 (x + ti) ∧ (mx 0 (x + ti) = 0 ∨ mx 0 (x + ti) = x + ti) := by unfold mx; split <;> omega
  constructor
  · rintro ⟨bid, hb, h⟩
    refine ⟨bid, ⟨by omega, hb.2⟩, fun ans a0 a1 => ⟨fun q => ?_, fun q => ?_⟩⟩
    · rcases h with h | h
      · rcases q with q | q <;> omega
      · exact h
    · refine h1 ans ?_ a1
      unfold fst at q
      omega
  · rintro ⟨bid, hb, h⟩
    have h3 : x + ti ≤ bid := by
      rcases Classical.em (x = -1) with q | q
      · omega
      · have q2 : fst ti bid x := Classical.byContradiction fun z => (h2.resolve_left q) ((h x (by omega) hx.2).2 z)
        rcases q2 with z | z <;> omega
    refine ⟨bid, ⟨by omega, hb.2⟩, ?_⟩
    rcases Classical.em (bid = 0 ∧ ti = 1) with q | q
    · exact Or.inl q
    · refine Or.inr ((h 0 (Int.le_refl 0) hf).1 ?_)
      unfold fst
      omega
theorem ans_eq {ti ps : Int} {P : qP} {tw o f x : Int} (hti : ti = 0 ∨ ti = 1) (ho : 0 ≤ o) (hx : -1 ≤ x ∧ x ≤ o) (h1 : ∀ a, x < a → a ≤ o → ¬ tkP ps P tw o f a 1) (h2 : x = -1 ∨ tkP ps P tw o f x 1) :
    (∀ bid, mx 0 (x + ti) ≤ bid → bid ≤ f → ¬ (bid = 0 ∧ ti = 1) ∧ lsP ps P tw o f bid 1) ↔ ansP ti ps P tw o f := by
  have hm : 0 ≤ mx 0 (x + ti) ∧ x + ti ≤ mx 0 (x + ti) ∧ (mx 0 (x + ti) = 0 ∨ mx 0 (x + ti) = x + ti) := by unfold mx; split <;> omega
  constructor
  · intro h bid b0 b1
    rcases Classical.em (mx 0 (x + ti) ≤ bid) with q | q
    · obtain ⟨g1, g2⟩ := h bid q b1
      refine ⟨0, ⟨Int.le_refl 0, ho⟩, fun _ => g2, fun z => ?_⟩
      unfold fst at z
      omega
    · refine ⟨x, ⟨by omega, hx.2⟩, fun z => ?_, fun _ => h2.resolve_left (by omega)⟩
      unfold fst at z
      omega
  · intro h bid b0 b1
    obtain ⟨ans, ha, g1, g2⟩ := h bid (by omega) b1
    have q : fst ti bid ans := Classical.byContradiction fun z => by
      have z2 := g2 z
      rcases Classical.em (x < ans) with w | w
      · exact h1 ans w ha.2 z2
      · unfold fst at z
        omega
    refine ⟨fun z => ?_, g1 q⟩
    unfold fst at q
    omega
/-- the time: the least number of rounds, 0 to 8; 9: there is none -/
noncomputable def tT (E ti ps tw o f b : Int) : Int :=
  9 - (bC (fc E ti ps 0 tw o f b) + bC (fc E ti ps 1 tw o f b) + bC (fc E ti ps 2 tw o f b) + bC (fc E ti ps 3 tw o f b) + bC (fc E ti ps 4 tw o f b) + bC (fc E ti ps 5 tw o f b) + bC (fc E ti ps 6 tw o f b) + bC (fc E ti ps 7 tw o f b) + bC (fc E ti ps 8 tw o f b))
theorem bC_le {P Q : Prop} (h : P → Q) : bC P ≤ bC Q := by
  rcases Classical.em P with p | p
  · rw [bC_t p, bC_t (h p)]; exact Int.le_refl 1
  · rw [bC_f p]; have := bC_01 Q; omega
theorem bC_iff {P : Prop} : P ↔ bC P = 1 := ⟨bC_t, fun h => Classical.byContradiction fun q => by rw [bC_f q] at h; omega⟩
theorem tT_b (E ti ps tw o f b : Int) : 0 ≤ tT E ti ps tw o f b ∧ tT E ti ps tw o f b ≤ 9 := by
  have h0 := bC_01 (fc E ti ps 0 tw o f b)
  have h1 := bC_01 (fc E ti ps 1 tw o f b)
  have h2 := bC_01 (fc E ti ps 2 tw o f b)
  have h3 := bC_01 (fc E ti ps 3 tw o f b)
  have h4 := bC_01 (fc E ti ps 4 tw o f b)
  have h5 := bC_01 (fc E ti ps 5 tw o f b)
  have h6 := bC_01 (fc E ti ps 6 tw o f b)
  have h7 := bC_01 (fc E ti ps 7 tw o f b)
  have h8 := bC_01 (fc E ti ps 8 tw o f b)
  unfold tT
  omega
theorem tT_le (E ti ps tw o f b : Int) {j : Nat} (hj : j ≤ 8) : tT E ti ps tw o f b ≤ j ↔ fc E ti ps j tw o f b := by
  have b0 := bC_01 (fc E ti ps 0 tw o f b)
  have b8 := bC_01 (fc E ti ps 8 tw o f b)
  have h0 := bC_le (fc_succ (E := E) (ti := ti) (ps := ps) 0 tw o f b)
  have h1 := bC_le (fc_succ (E := E) (ti := ti) (ps := ps) 1 tw o f b)
  have h2 := bC_le (fc_succ (E := E) (ti := ti) (ps := ps) 2 tw o f b)
  have h3 := bC_le (fc_succ (E := E) (ti := ti) (ps := ps) 3 tw o f b)
  have h4 := bC_le (fc_succ (E := E) (ti := ti) (ps := ps) 4 tw o f b)
  have h5 := bC_le (fc_succ (E := E) (ti := ti) (ps := ps) 5 tw o f b)
  have h6 := bC_le (fc_succ (E := E) (ti := ti) (ps := ps) 6 tw o f b)
  have h7 := bC_le (fc_succ (E := E) (ti := ti) (ps := ps) 7 tw o f b)
  rw [bC_iff (P := fc E ti ps j tw o f b)]
  unfold tT
  have hc : j = 0 ∨ j = 1 ∨ j = 2 ∨ j = 3 ∨ j = 4 ∨ j = 5 ∨ j = 6 ∨ j = 7 ∨ j = 8 := by omega
  rcases hc with rfl | rfl | rfl | rfl | rfl | rfl | rfl | rfl | rfl <;> (simp only [Nat.zero_add, Nat.reduceAdd] at h0 h1 h2 h3 h4 h5 h6 h7 ⊢; omega)
/-- a number that says what up to m rounds force -/
def tB (E ti ps : Int) (m : Nat) (v tw o f b : Int) : Prop := 0 ≤ v ∧ (v ≤ m ∨ v = 9) ∧ ∀ j : Nat, j ≤ m → (v ≤ j ↔ fc E ti ps j tw o f b)
theorem tB_8 {E ti ps v tw o f b : Int} (h : tB E ti ps 8 v tw o f b) : v = tT E ti ps tw o f b := by
  obtain ⟨h1, h2, h3⟩ := h
  have hb := tT_b E ti ps tw o f b
  rcases Int.lt_trichotomy v (tT E ti ps tw o f b) with q | q | q
  · exfalso
    have := (tT_le E ti ps tw o f b (j := v.toNat) (by omega)).mpr ((h3 v.toNat (by omega)).mp (by omega))
    omega
  · exact q
  · exfalso
    have := (h3 (tT E ti ps tw o f b).toNat (by omega)).mpr ((tT_le E ti ps tw o f b (j := (tT E ti ps tw o f b).toNat) (by omega)).mp (by omega))
    omega
end
section
set_option maxHeartbeats 400000 in
set_option maxRecDepth 20000 in
theorem c_X2_winner {S : pS} {g : Nat} {e h : Int} {v1 v2 v3 v5 v6 v7 v8 v9 : Value} (hg : S g = some (oO 2 [.int (iI e), v1, v2, v3, .int (iI h), v5, v6, v7, v8, v9])) (he : 0 ≤ e ∧ e ≤ 1000) (hh : -1000 ≤ h ∧ h ≤ 1000) : Ct yX2_winner cX2_winner 1 (Option.some FieldType.int) 0 0 0 [.ref g] S (kI (winE e h) S) := by
  refine Ct.ofJ (by decide +kernel) (Nat.le_of_ble_eq_true rfl) ?_
  refine J_L (L1 := [some (.ref g)]) rfl ?_
  refine J_aload_n (pc1 := 1) rfl (i := 0) rfl dX2_winner_0 rfl ?_
  refine J_get (pc1 := 4) (j := 4) inUX2 (ci := 2) rfl (by decide) lf_X2_34 dX2_winner_1 rfl hg rfl ?_
  refine J_aload_n (pc1 := 5) rfl (i := 0) rfl dX2_winner_4 rfl ?_
  refine J_get (pc1 := 8) (j := 0) inUX2 (ci := 2) rfl (by decide) lf_X2_9 dX2_winner_5 rfl hg rfl ?_
  refine J_icmp_lt (pc1 := 11) (tgt := 13) (by omega) (by omega) (by omega) (by omega) dX2_winner_8 rfl rfl (fun h1 => ?_) (fun h1 => ?_)
  · refine J_aload_n (pc1 := 14) rfl (i := 0) rfl dX2_winner_13 rfl ?_
    refine J_get (pc1 := 17) (j := 4) inUX2 (ci := 2) rfl (by decide) lf_X2_34 dX2_winner_14 rfl hg rfl ?_
    refine J_aload_n (pc1 := 18) rfl (i := 0) rfl dX2_winner_17 rfl ?_
    refine J_get (pc1 := 21) (j := 0) inUX2 (ci := 2) rfl (by decide) lf_X2_9 dX2_winner_18 rfl hg rfl ?_
    refine J_ineg (pc1 := 22) dX2_winner_21 rfl ?_
    refine J_icmp_gt (pc1 := 25) (tgt := 29) (by omega) (by omega) (by omega) (by omega) dX2_winner_22 rfl rfl (fun h2 => ?_) (fun h2 => ?_)
    · refine J_sipush (pc1 := 32) (by decide) dX2_winner_29 rfl ?_
      exact J_iret rfl rfl dX2_winner_32 (Nat.le_refl _) (Nat.le_refl _) (kI_mk (by unfold winE; (repeat' split) <;> omega))
    · refine J_iconst (pc1 := 26) dX2_winner_25 rfl ?_
      refine J_goto (tgt := 32) dX2_winner_26 rfl ?_
      exact J_iret rfl rfl dX2_winner_32 (Nat.le_refl _) (Nat.le_refl _) (kI_mk (by unfold winE; (repeat' split) <;> omega))
  · refine J_iconst (pc1 := 12) dX2_winner_11 rfl ?_
    exact J_iret rfl rfl dX2_winner_12 (Nat.le_refl _) (Nat.le_refl _) (kI_mk (by unfold winE; (repeat' split) <;> omega))
set_option maxHeartbeats 400000 in
set_option maxRecDepth 20000 in
theorem c_X2_isOver {S : pS} {g : Nat} {e h : Int} {v1 v2 v3 v5 v6 v7 v8 v9 : Value} (hg : S g = some (oO 2 [.int (iI e), v1, v2, v3, .int (iI h), v5, v6, v7, v8, v9])) (he : 0 ≤ e ∧ e ≤ 1000) (hh : -1000 ≤ h ∧ h ≤ 1000) : Ct yX2_isOver cX2_isOver 1 (Option.some FieldType.boolean) 1 0 0 [.ref g] S (kI (bZ (winE e h ≠ -1006)) S) := by
  have hw := winE_b e h
  refine Ct.ofJ (by decide +kernel) (Nat.le_of_ble_eq_true rfl) ?_
  refine J_L (L1 := [some (.ref g)]) rfl ?_
  refine J_aload_n (pc1 := 1) rfl (i := 0) rfl dX2_isOver_0 rfl ?_
  refine J_callVI (pc1 := 4) (As := []) gv_X2_53 yv_X2_winner rfl (c_X2_winner hg he hh) dX2_isOver_1 rfl hg rfl rfl (by omega) (by decide) (Nat.zero_le _) (Nat.zero_le _) (Nat.le_of_ble_eq_true rfl) ?_
  refine J_sipush (pc1 := 7) (by decide) dX2_isOver_4 rfl ?_
  refine J_icmp_eq (pc1 := 10) (tgt := 14) (by omega) (by omega) (by decide) (by decide) dX2_isOver_7 rfl rfl (fun h1 => ?_) (fun h1 => ?_)
  · refine J_iconst (pc1 := 15) dX2_isOver_14 rfl ?_
    exact J_iret rfl rfl dX2_isOver_15 (Nat.le_refl _) (Nat.le_refl _) (kI_mk (by first | exact bZ_t (by omega) | exact bZ_f (by omega)))
  · refine J_iconst (pc1 := 11) dX2_isOver_10 rfl ?_
    refine J_goto (tgt := 15) dX2_isOver_11 rfl ?_
    exact J_iret rfl rfl dX2_isOver_15 (Nat.le_refl _) (Nat.le_refl _) (kI_mk (by first | exact bZ_t (by omega) | exact bZ_f (by omega)))
set_option maxHeartbeats 400000 in
set_option maxRecDepth 20000 in
theorem c_X2_sideOf0 {S : pS} {g z o : Nat} {v0 v1 v2 v3 v4 v5 v6 v7 : Value} (hg : S g = some (oO 2 [v0, v1, v2, v3, v4, v5, v6, v7, .ref z, .ref o])) : Ct yX2_sideOf cX2_sideOf 2 (Option.some (FieldType.object "BorrowedHours$Side")) 0 0 0 [.ref g, .int (iI 0)] S (kF z S) := by
  refine Ct.ofJ (by decide +kernel) (Nat.le_of_ble_eq_true rfl) ?_
  refine J_L (L1 := [some (.ref g), some (.int (iI 0))]) rfl ?_
  refine J_iload_n (pc1 := 1) rfl (i := 1) rfl dX2_sideOf_0 rfl ?_
  refine J_if_ne (pc1 := 4) (tgt := 11) (by decide) (by decide) dX2_sideOf_1 rfl rfl (fun h1 => ?_) (fun h1 => ?_)
  · exact absurd h1 (by decide)
  · refine J_aload_n (pc1 := 5) rfl (i := 0) rfl dX2_sideOf_4 rfl ?_
    refine J_get (pc1 := 8) (j := 8) inUX2 (ci := 2) rfl (by decide) lf_X2_18 dX2_sideOf_5 rfl hg rfl ?_
    refine J_goto (tgt := 15) dX2_sideOf_8 rfl ?_
    exact J_aret rfl dX2_sideOf_15 (Nat.le_refl _) (Nat.le_refl _) (⟨rfl, rfl⟩)
set_option maxHeartbeats 400000 in
set_option maxRecDepth 20000 in
theorem c_X2_sideOf1 {S : pS} {g z o : Nat} {v0 v1 v2 v3 v4 v5 v6 v7 : Value} (hg : S g = some (oO 2 [v0, v1, v2, v3, v4, v5, v6, v7, .ref z, .ref o])) : Ct yX2_sideOf cX2_sideOf 2 (Option.some (FieldType.object "BorrowedHours$Side")) 0 0 0 [.ref g, .int (iI 1)] S (kF o S) := by
  refine Ct.ofJ (by decide +kernel) (Nat.le_of_ble_eq_true rfl) ?_
  refine J_L (L1 := [some (.ref g), some (.int (iI 1))]) rfl ?_
  refine J_iload_n (pc1 := 1) rfl (i := 1) rfl dX2_sideOf_0 rfl ?_
  refine J_if_ne (pc1 := 4) (tgt := 11) (by decide) (by decide) dX2_sideOf_1 rfl rfl (fun h1 => ?_) (fun h1 => ?_)
  · refine J_aload_n (pc1 := 12) rfl (i := 0) rfl dX2_sideOf_11 rfl ?_
    refine J_get (pc1 := 15) (j := 9) inUX2 (ci := 2) rfl (by decide) lf_X2_22 dX2_sideOf_12 rfl hg rfl ?_
    exact J_aret rfl dX2_sideOf_15 (Nat.le_refl _) (Nat.le_refl _) (⟨rfl, rfl⟩)
  · exact absurd h1 (by decide)
set_option maxHeartbeats 400000 in
set_option maxRecDepth 20000 in
theorem c_X2_mostOf0 {S : pS} {g z o : Nat} {f : Int → Int} (hg : IsG S g z o f) : Ct yX2_mostOf cX2_mostOf 2 (Option.some FieldType.int) 1 0 0 [.ref g, .int (iI 0)] S (kI (f 7 + f 1) S) := by
  refine Ct.ofJ (by decide +kernel) (Nat.le_of_ble_eq_true rfl) ?_
  refine J_L (L1 := [some (.ref g), some (.int (iI 0))]) rfl ?_
  refine J_aload_n (pc1 := 1) rfl (i := 0) rfl dX2_mostOf_0 rfl ?_
  refine J_iload_n (pc1 := 2) rfl (i := 1) rfl dX2_mostOf_1 rfl ?_
  refine J_callVF (pc1 := 5) (As := [.int (iI 0)]) gv_X2_57 yv_X2_sideOf rfl (c_X2_sideOf0 hg.1) dX2_mostOf_2 rfl hg.1 rfl rfl (by omega) (by decide) (Nat.zero_le _) (Nat.zero_le _) (Nat.le_of_ble_eq_true rfl) ?_
  refine J_get (pc1 := 8) (j := 1) inUX6 (ci := 6) rfl (by decide) lf_X2_61 dX2_mostOf_5 rfl hg.2.1 rfl ?_
  refine J_aload_n (pc1 := 9) rfl (i := 0) rfl dX2_mostOf_8 rfl ?_
  refine J_get (pc1 := 12) (j := 1) inUX2 (ci := 2) rfl (by decide) lf_X2_25 dX2_mostOf_9 rfl hg.1 rfl ?_
  refine J_iadd (pc1 := 13) dX2_mostOf_12 rfl ?_
  exact J_iret rfl rfl dX2_mostOf_13 (Nat.le_refl _) (Nat.le_refl _) (kI_mk rfl)
set_option maxHeartbeats 400000 in
set_option maxRecDepth 20000 in
theorem c_X2_mostOf1 {S : pS} {g z o : Nat} {f : Int → Int} (hg : IsG S g z o f) : Ct yX2_mostOf cX2_mostOf 2 (Option.some FieldType.int) 1 0 0 [.ref g, .int (iI 1)] S (kI (f 8 + f 1) S) := by
  refine Ct.ofJ (by decide +kernel) (Nat.le_of_ble_eq_true rfl) ?_
  refine J_L (L1 := [some (.ref g), some (.int (iI 1))]) rfl ?_
  refine J_aload_n (pc1 := 1) rfl (i := 0) rfl dX2_mostOf_0 rfl ?_
  refine J_iload_n (pc1 := 2) rfl (i := 1) rfl dX2_mostOf_1 rfl ?_
  refine J_callVF (pc1 := 5) (As := [.int (iI 1)]) gv_X2_57 yv_X2_sideOf rfl (c_X2_sideOf1 hg.1) dX2_mostOf_2 rfl hg.1 rfl rfl (by omega) (by decide) (Nat.zero_le _) (Nat.zero_le _) (Nat.le_of_ble_eq_true rfl) ?_
  refine J_get (pc1 := 8) (j := 1) inUX6 (ci := 6) rfl (by decide) lf_X2_61 dX2_mostOf_5 rfl hg.2.2.1 rfl ?_
  refine J_aload_n (pc1 := 9) rfl (i := 0) rfl dX2_mostOf_8 rfl ?_
  refine J_get (pc1 := 12) (j := 1) inUX2 (ci := 2) rfl (by decide) lf_X2_25 dX2_mostOf_9 rfl hg.1 rfl ?_
  refine J_iadd (pc1 := 13) dX2_mostOf_12 rfl ?_
  exact J_iret rfl rfl dX2_mostOf_13 (Nat.le_refl _) (Nat.le_refl _) (kI_mk rfl)
/-- Game.mostOf(p) -/
theorem c_X2_mostOf {S : pS} {g z o : Nat} {f : Int → Int} (hg : IsG S g z o f) {p : Int} (hp : p = 0 ∨ p = 1) : Ct yX2_mostOf cX2_mostOf 2 (Option.some FieldType.int) 1 0 0 [.ref g, .int (iI p)] S (kI (moF f p) S) := by
  rcases hp with rfl | rfl
  · exact c_X2_mostOf0 hg
  · exact c_X2_mostOf1 hg
set_option maxHeartbeats 400000 in
set_option maxRecDepth 20000 in
theorem c_X2_settingOf {S : pS} {g z o : Nat} {f : Int → Int} (hg : IsG S g z o f) {k : Int} (hk : 0 ≤ k ∧ k ≤ 3) : Ct yX2_settingOf cX2_settingOf 2 (Option.some FieldType.int) 0 0 0 [.ref g, .int (iI k)] S (kI (f k) S) := by
  refine Ct.ofJ (by decide +kernel) (Nat.le_of_ble_eq_true rfl) ?_
  refine J_L (L1 := [some (.ref g), some (.int (iI k))]) rfl ?_
  refine J_iload_n (pc1 := 1) rfl (i := 1) rfl dX2_settingOf_0 rfl ?_
  rcases (show k = 0 ∨ k = 1 ∨ k = 2 ∨ (k < 0 ∨ 2 < k) by omega) with hs1 | hs1 | hs1 | hs1
  · refine J_tableIn (tgt := 28) (by omega) (by omega) dX2_settingOf_1 (by omega) (by omega) (by rw [hs1]; rfl) rfl ?_
    refine J_aload_n (pc1 := 29) rfl (i := 0) rfl dX2_settingOf_28 rfl ?_
    refine J_get (pc1 := 32) (j := 0) inUX2 (ci := 2) rfl (by decide) lf_X2_9 dX2_settingOf_29 rfl hg.1 rfl ?_
    exact J_iret rfl rfl dX2_settingOf_32 (Nat.le_refl _) (Nat.le_refl _) (kI_mk (by first | rw [hs1] | (rw [show k = 3 by omega])))
  · refine J_tableIn (tgt := 33) (by omega) (by omega) dX2_settingOf_1 (by omega) (by omega) (by rw [hs1]; rfl) rfl ?_
    refine J_aload_n (pc1 := 34) rfl (i := 0) rfl dX2_settingOf_33 rfl ?_
    refine J_get (pc1 := 37) (j := 1) inUX2 (ci := 2) rfl (by decide) lf_X2_25 dX2_settingOf_34 rfl hg.1 rfl ?_
    exact J_iret rfl rfl dX2_settingOf_37 (Nat.le_refl _) (Nat.le_refl _) (kI_mk (by first | rw [hs1] | (rw [show k = 3 by omega])))
  · refine J_tableIn (tgt := 38) (by omega) (by omega) dX2_settingOf_1 (by omega) (by omega) (by rw [hs1]; rfl) rfl ?_
    refine J_aload_n (pc1 := 39) rfl (i := 0) rfl dX2_settingOf_38 rfl ?_
    refine J_get (pc1 := 42) (j := 2) inUX2 (ci := 2) rfl (by decide) lf_X2_28 dX2_settingOf_39 rfl hg.1 rfl ?_
    exact J_iret rfl rfl dX2_settingOf_42 (Nat.le_refl _) (Nat.le_refl _) (kI_mk (by first | rw [hs1] | (rw [show k = 3 by omega])))
  · refine J_tableOut (tgt := 43) (by omega) (by omega) dX2_settingOf_1 hs1 rfl ?_
    refine J_aload_n (pc1 := 44) rfl (i := 0) rfl dX2_settingOf_43 rfl ?_
    refine J_get (pc1 := 47) (j := 3) inUX2 (ci := 2) rfl (by decide) lf_X2_31 dX2_settingOf_44 rfl hg.1 rfl ?_
    exact J_iret rfl rfl dX2_settingOf_47 (Nat.le_refl _) (Nat.le_refl _) (kI_mk (by first | rw [hs1] | (rw [show k = 3 by omega])))
set_option maxHeartbeats 400000 in
set_option maxRecDepth 20000 in
theorem c_X2_toWin {S : pS} {g z o : Nat} {f : Int → Int} (hg : IsG S g z o f) {p : Int} (hp : p = 0 ∨ p = 1) : Ct yX2_toWin cX2_toWin 2 (Option.some FieldType.int) 0 0 0 [.ref g, .int (iI p)] S (kI (twF f p) S) := by
  refine Ct.ofJ (by decide +kernel) (Nat.le_of_ble_eq_true rfl) ?_
  refine J_L (L1 := [some (.ref g), some (.int (iI p))]) rfl ?_
  refine J_iload_n (pc1 := 1) rfl (i := 1) rfl dX2_toWin_0 rfl ?_
  refine J_if_ne (pc1 := 4) (tgt := 16) (by omega) (by omega) dX2_toWin_1 rfl rfl (fun h1 => ?_) (fun h1 => ?_)
  · refine J_aload_n (pc1 := 17) rfl (i := 0) rfl dX2_toWin_16 rfl ?_
    refine J_get (pc1 := 20) (j := 0) inUX2 (ci := 2) rfl (by decide) lf_X2_9 dX2_toWin_17 rfl hg.1 rfl ?_
    refine J_aload_n (pc1 := 21) rfl (i := 0) rfl dX2_toWin_20 rfl ?_
    refine J_get (pc1 := 24) (j := 4) inUX2 (ci := 2) rfl (by decide) lf_X2_34 dX2_toWin_21 rfl hg.1 rfl ?_
    refine J_iadd (pc1 := 25) dX2_toWin_24 rfl ?_
    exact J_iret rfl rfl dX2_toWin_25 (Nat.le_refl _) (Nat.le_refl _) (kI_mk (by unfold twF; (repeat' split) <;> omega))
  · refine J_aload_n (pc1 := 5) rfl (i := 0) rfl dX2_toWin_4 rfl ?_
    refine J_get (pc1 := 8) (j := 0) inUX2 (ci := 2) rfl (by decide) lf_X2_9 dX2_toWin_5 rfl hg.1 rfl ?_
    refine J_aload_n (pc1 := 9) rfl (i := 0) rfl dX2_toWin_8 rfl ?_
    refine J_get (pc1 := 12) (j := 4) inUX2 (ci := 2) rfl (by decide) lf_X2_34 dX2_toWin_9 rfl hg.1 rfl ?_
    refine J_isub (pc1 := 13) dX2_toWin_12 rfl ?_
    refine J_goto (tgt := 25) dX2_toWin_13 rfl ?_
    exact J_iret rfl rfl dX2_toWin_25 (Nat.le_refl _) (Nat.le_refl _) (kI_mk (by unfold twF; (repeat' split) <;> omega))
set_option maxHeartbeats 400000 in
set_option maxRecDepth 20000 in
theorem c_X2_gainOf {S : pS} {g : Nat} {p : Int} {v0 v1 v3 v4 v5 v6 v7 v8 v9 : Value} (hg : S g = some (oO 2 [v0, v1, .int (iI p), v3, v4, v5, v6, v7, v8, v9])) (hp : 0 ≤ p ∧ p ≤ 1) {x : Int} : Ct yX2_gainOf cX2_gainOf 2 (Option.some FieldType.int) 0 0 0 [.ref g, .int (iI x)] S (kI (gaE p x) S) := by
  refine Ct.ofJ (by decide +kernel) (Nat.le_of_ble_eq_true rfl) ?_
  refine J_L (L1 := [some (.ref g), some (.int (iI x))]) rfl ?_
  refine J_aload_n (pc1 := 1) rfl (i := 0) rfl dX2_gainOf_0 rfl ?_
  refine J_get (pc1 := 4) (j := 2) inUX2 (ci := 2) rfl (by decide) lf_X2_28 dX2_gainOf_1 rfl hg rfl ?_
  refine J_if_ne (pc1 := 7) (tgt := 11) (by omega) (by omega) dX2_gainOf_4 rfl rfl (fun h1 => ?_) (fun h1 => ?_)
  · refine J_iconst (pc1 := 12) dX2_gainOf_11 rfl ?_
    exact J_iret rfl rfl dX2_gainOf_12 (Nat.le_refl _) (Nat.le_refl _) (kI_mk (by unfold gaE; (repeat' split) <;> omega))
  · refine J_iload_n (pc1 := 8) rfl (i := 1) rfl dX2_gainOf_7 rfl ?_
    refine J_goto (tgt := 12) dX2_gainOf_8 rfl ?_
    exact J_iret rfl rfl dX2_gainOf_12 (Nat.le_refl _) (Nat.le_refl _) (kI_mk (by unfold gaE; (repeat' split) <;> omega))
set_option maxHeartbeats 400000 in
set_option maxRecDepth 20000 in
theorem c_X2_takerOf {S : pS} {g z o : Nat} {f : Int → Int} (hg : IsG S g z o f) (ok : okF f) {b a : Int} (hb : -1000 ≤ b ∧ b ≤ 1000) (ha : -1000 ≤ a ∧ a ≤ 1000) : Ct yX2_takerOf cX2_takerOf 4 (Option.some FieldType.int) 0 0 0 [.ref g, .int (iI b), .int (iI a)] S (kI (tkF f b a) S) := by
  obtain ⟨o0, o1, o2, o3, o4, o5, o7, o9, o10, o12, o13, -⟩ := ok
  refine Ct.ofJ (by decide +kernel) (Nat.le_of_ble_eq_true rfl) ?_
  refine J_L (L1 := [some (.ref g), some (.int (iI b)), some (.int (iI a)), none]) rfl ?_
  refine J_iload_n (pc1 := 1) rfl (i := 1) rfl dX2_takerOf_0 rfl ?_
  refine J_iload_n (pc1 := 2) rfl (i := 2) rfl dX2_takerOf_1 rfl ?_
  refine J_icmp_gt (pc1 := 5) (tgt := 17) (by omega) (by omega) (by omega) (by omega) dX2_takerOf_2 rfl rfl (fun h1 => ?_) (fun h1 => ?_)
  · refine J_iconst (pc1 := 18) dX2_takerOf_17 rfl ?_
    refine J_goto (tgt := 22) dX2_takerOf_18 rfl ?_
    refine J_istore_n (pc1 := 23) (L1 := [some (.ref g), some (.int (iI b)), some (.int (iI a)), some (.int (iI 1))]) rfl (i := 3) dX2_takerOf_22 rfl (by decide) rfl rfl ?_
    refine J_iload_n (pc1 := 24) rfl (i := 3) rfl dX2_takerOf_23 rfl ?_
    refine J_if_eq (pc1 := 27) (tgt := 34) (by decide) (by decide) dX2_takerOf_24 rfl rfl (fun h2 => ?_) (fun h2 => ?_)
    · exact absurd h2 (by decide)
    · refine J_aload_n (pc1 := 28) rfl (i := 0) rfl dX2_takerOf_27 rfl ?_
      refine J_get (pc1 := 31) (j := 5) inUX2 (ci := 2) rfl (by decide) lf_X2_37 dX2_takerOf_28 rfl hg.1 rfl ?_
      refine J_goto (tgt := 40) dX2_takerOf_31 rfl ?_
      exact J_iret rfl rfl dX2_takerOf_40 (Nat.le_refl _) (Nat.le_refl _) (kI_mk (by unfold tkF; (repeat' split) <;> omega))
  · refine J_iload_n (pc1 := 6) rfl (i := 1) rfl dX2_takerOf_5 rfl ?_
    refine J_iload_n (pc1 := 7) rfl (i := 2) rfl dX2_takerOf_6 rfl ?_
    refine J_icmp_ne (pc1 := 10) (tgt := 21) (by omega) (by omega) (by omega) (by omega) dX2_takerOf_7 rfl rfl (fun h3 => ?_) (fun h3 => ?_)
    · refine J_iconst (pc1 := 22) dX2_takerOf_21 rfl ?_
      refine J_istore_n (pc1 := 23) (L1 := [some (.ref g), some (.int (iI b)), some (.int (iI a)), some (.int (iI 0))]) rfl (i := 3) dX2_takerOf_22 rfl (by decide) rfl rfl ?_
      refine J_iload_n (pc1 := 24) rfl (i := 3) rfl dX2_takerOf_23 rfl ?_
      refine J_if_eq (pc1 := 27) (tgt := 34) (by decide) (by decide) dX2_takerOf_24 rfl rfl (fun h4 => ?_) (fun h4 => ?_)
      · refine J_iconst (pc1 := 35) dX2_takerOf_34 rfl ?_
        refine J_aload_n (pc1 := 36) rfl (i := 0) rfl dX2_takerOf_35 rfl ?_
        refine J_get (pc1 := 39) (j := 5) inUX2 (ci := 2) rfl (by decide) lf_X2_37 dX2_takerOf_36 rfl hg.1 rfl ?_
        refine J_isub (pc1 := 40) dX2_takerOf_39 rfl ?_
        exact J_iret rfl rfl dX2_takerOf_40 (Nat.le_refl _) (Nat.le_refl _) (kI_mk (by unfold tkF; (repeat' split) <;> omega))
      · exact absurd h4 (by decide)
    · refine J_aload_n (pc1 := 11) rfl (i := 0) rfl dX2_takerOf_10 rfl ?_
      refine J_get (pc1 := 14) (j := 3) inUX2 (ci := 2) rfl (by decide) lf_X2_31 dX2_takerOf_11 rfl hg.1 rfl ?_
      refine J_if_ne (pc1 := 17) (tgt := 21) (by omega) (by omega) dX2_takerOf_14 rfl rfl (fun h5 => ?_) (fun h5 => ?_)
      · refine J_iconst (pc1 := 22) dX2_takerOf_21 rfl ?_
        refine J_istore_n (pc1 := 23) (L1 := [some (.ref g), some (.int (iI b)), some (.int (iI a)), some (.int (iI 0))]) rfl (i := 3) dX2_takerOf_22 rfl (by decide) rfl rfl ?_
        refine J_iload_n (pc1 := 24) rfl (i := 3) rfl dX2_takerOf_23 rfl ?_
        refine J_if_eq (pc1 := 27) (tgt := 34) (by decide) (by decide) dX2_takerOf_24 rfl rfl (fun h6 => ?_) (fun h6 => ?_)
        · refine J_iconst (pc1 := 35) dX2_takerOf_34 rfl ?_
          refine J_aload_n (pc1 := 36) rfl (i := 0) rfl dX2_takerOf_35 rfl ?_
          refine J_get (pc1 := 39) (j := 5) inUX2 (ci := 2) rfl (by decide) lf_X2_37 dX2_takerOf_36 rfl hg.1 rfl ?_
          refine J_isub (pc1 := 40) dX2_takerOf_39 rfl ?_
          exact J_iret rfl rfl dX2_takerOf_40 (Nat.le_refl _) (Nat.le_refl _) (kI_mk (by unfold tkF; (repeat' split) <;> omega))
        · exact absurd h6 (by decide)
      · refine J_iconst (pc1 := 18) dX2_takerOf_17 rfl ?_
        refine J_goto (tgt := 22) dX2_takerOf_18 rfl ?_
        refine J_istore_n (pc1 := 23) (L1 := [some (.ref g), some (.int (iI b)), some (.int (iI a)), some (.int (iI 1))]) rfl (i := 3) dX2_takerOf_22 rfl (by decide) rfl rfl ?_
        refine J_iload_n (pc1 := 24) rfl (i := 3) rfl dX2_takerOf_23 rfl ?_
        refine J_if_eq (pc1 := 27) (tgt := 34) (by decide) (by decide) dX2_takerOf_24 rfl rfl (fun h7 => ?_) (fun h7 => ?_)
        · exact absurd h7 (by decide)
        · refine J_aload_n (pc1 := 28) rfl (i := 0) rfl dX2_takerOf_27 rfl ?_
          refine J_get (pc1 := 31) (j := 5) inUX2 (ci := 2) rfl (by decide) lf_X2_37 dX2_takerOf_28 rfl hg.1 rfl ?_
          refine J_goto (tgt := 40) dX2_takerOf_31 rfl ?_
          exact J_iret rfl rfl dX2_takerOf_40 (Nat.le_refl _) (Nat.le_refl _) (kI_mk (by unfold tkF; (repeat' split) <;> omega))
set_option maxHeartbeats 400000 in
set_option maxRecDepth 20000 in
theorem c_X2_allows {S : pS} {g z o : Nat} {f : Int → Int} (hg : IsG S g z o f) (ok : okF f) {b a : Int} (hb : -1000 ≤ b ∧ b ≤ 1000) (ha : -1000 ≤ a ∧ a ≤ 1000) : Ct yX2_allows cX2_allows 3 (Option.some FieldType.boolean) 2 0 0 [.ref g, .int (iI b), .int (iI a)] S (kI (bZ (winF f = -1006 ∧ b ≤ moF f (f 5) ∧ a ≤ moF f (1 - f 5))) S) := by
  have q1 := bZ_lo (winE (f 0) (f 4) ≠ -1006)
  have q2 := bZ_hi (winE (f 0) (f 4) ≠ -1006)
  have q3 := moF_b (p := f 5) ok
  have q4 := moF_b (p := 1 - f 5) ok
  have ok0 := ok
  obtain ⟨o0, o1, o2, o3, o4, o5, o7, o9, o10, o12, o13, -⟩ := ok
  refine Ct.ofJ (by decide +kernel) (Nat.le_of_ble_eq_true rfl) ?_
  refine J_L (L1 := [some (.ref g), some (.int (iI b)), some (.int (iI a))]) rfl ?_
  refine J_aload_n (pc1 := 1) rfl (i := 0) rfl dX2_allows_0 rfl ?_
  refine J_callVI (pc1 := 4) (As := []) gv_X2_64 yv_X2_isOver rfl (c_X2_isOver hg.1 (by omega) (by omega)) dX2_allows_1 rfl hg.1 rfl rfl (by omega) (by decide) (Nat.zero_le _) (Nat.zero_le _) (Nat.le_of_ble_eq_true rfl) ?_
  refine J_if_ne (pc1 := 7) (tgt := 37) (bZ_lo _) (bZ_hi _) dX2_allows_4 rfl rfl (fun h1 => ?_) (fun h1 => ?_)
  · refine J_iconst (pc1 := 38) dX2_allows_37 rfl ?_
    exact J_iret rfl rfl dX2_allows_38 (Nat.le_refl _) (Nat.le_refl _) (kI_mk (by first | exact bZ_t ⟨Decidable.byContradiction (bZ_0 (by assumption)), by omega, by omega⟩ | exact bZ_f (fun q => by first | exact absurd q.1 (bZ_1 (by assumption)) | omega)))
  · refine J_iload_n (pc1 := 8) rfl (i := 1) rfl dX2_allows_7 rfl ?_
    refine J_aload_n (pc1 := 9) rfl (i := 0) rfl dX2_allows_8 rfl ?_
    refine J_aload_n (pc1 := 10) rfl (i := 0) rfl dX2_allows_9 rfl ?_
    refine J_get (pc1 := 13) (j := 5) inUX2 (ci := 2) rfl (by decide) lf_X2_37 dX2_allows_10 rfl hg.1 rfl ?_
    refine J_callVI (pc1 := 16) (As := [.int (iI (f 5))]) gv_X2_68 yv_X2_mostOf rfl (c_X2_mostOf hg (p := f 5) (by omega)) dX2_allows_13 rfl hg.1 rfl rfl (by omega) (by decide) (Nat.zero_le _) (Nat.zero_le _) (Nat.le_of_ble_eq_true rfl) ?_
    refine J_icmp_gt (pc1 := 19) (tgt := 37) (by omega) (by omega) (by omega) (by omega) dX2_allows_16 rfl rfl (fun h2 => ?_) (fun h2 => ?_)
    · refine J_iconst (pc1 := 38) dX2_allows_37 rfl ?_
      exact J_iret rfl rfl dX2_allows_38 (Nat.le_refl _) (Nat.le_refl _) (kI_mk (by first | exact bZ_t ⟨Decidable.byContradiction (bZ_0 (by assumption)), by omega, by omega⟩ | exact bZ_f (fun q => by first | exact absurd q.1 (bZ_1 (by assumption)) | omega)))
    · refine J_iload_n (pc1 := 20) rfl (i := 2) rfl dX2_allows_19 rfl ?_
      refine J_aload_n (pc1 := 21) rfl (i := 0) rfl dX2_allows_20 rfl ?_
      refine J_iconst (pc1 := 22) dX2_allows_21 rfl ?_
      refine J_aload_n (pc1 := 23) rfl (i := 0) rfl dX2_allows_22 rfl ?_
      refine J_get (pc1 := 26) (j := 5) inUX2 (ci := 2) rfl (by decide) lf_X2_37 dX2_allows_23 rfl hg.1 rfl ?_
      refine J_isub (pc1 := 27) dX2_allows_26 rfl ?_
      refine J_callVI (pc1 := 30) (As := [.int (iI (1 - (f 5)))]) gv_X2_68 yv_X2_mostOf rfl (c_X2_mostOf hg (p := 1 - (f 5)) (by omega)) dX2_allows_27 rfl hg.1 rfl rfl (by omega) (by decide) (Nat.zero_le _) (Nat.zero_le _) (Nat.le_of_ble_eq_true rfl) ?_
      refine J_icmp_gt (pc1 := 33) (tgt := 37) (by omega) (by omega) (by omega) (by omega) dX2_allows_30 rfl rfl (fun h3 => ?_) (fun h3 => ?_)
      · refine J_iconst (pc1 := 38) dX2_allows_37 rfl ?_
        exact J_iret rfl rfl dX2_allows_38 (Nat.le_refl _) (Nat.le_refl _) (kI_mk (by first | exact bZ_t ⟨Decidable.byContradiction (bZ_0 (by assumption)), by omega, by omega⟩ | exact bZ_f (fun q => by first | exact absurd q.1 (bZ_1 (by assumption)) | omega)))
      · refine J_iconst (pc1 := 34) dX2_allows_33 rfl ?_
        refine J_goto (tgt := 38) dX2_allows_34 rfl ?_
        exact J_iret rfl rfl dX2_allows_38 (Nat.le_refl _) (Nat.le_refl _) (kI_mk (by first | exact bZ_t ⟨Decidable.byContradiction (bZ_0 (by assumption)), by omega, by omega⟩ | exact bZ_f (fun q => by first | exact absurd q.1 (bZ_1 (by assumption)) | omega)))
set_option maxHeartbeats 400000 in
set_option maxRecDepth 20000 in
theorem c_X6_init {S : pS} {z : Nat} {b h p t w : Int} (hz : S z = some (sdO b h p t w)) : Ct yX6_init cX6_init 1 none 1 0 0 [.ref z] S (kN (pu S z (sdO 4 4 p t w))) := by
  refine Ct.ofJ (by decide +kernel) (Nat.le_of_ble_eq_true rfl) ?_
  refine J_L (L1 := [some (.ref z)]) rfl ?_
  refine J_aload_n (pc1 := 1) rfl (i := 0) rfl dX6_init_0 rfl ?_
  refine J_objInit (pc1 := 4) lm_X6_3 li_init_Object lc_init_Object dX6_init_1 rfl (by omega) (by decide) ?_
  refine J_aload_n (pc1 := 5) rfl (i := 0) rfl dX6_init_4 rfl ?_
  refine J_iconst (pc1 := 6) dX6_init_5 rfl ?_
  refine J_put (pc1 := 9) (ty := .int) (j := 0) (fs1 := [.int (iI 4), .int (iI h), .int (iI p), .int (iI t), .int (iI w)]) inUX6 (ci := 6) rfl (by decide) tyX6 tyX6_ok nmX6 rfl (by decide +kernel) lf_X6_9 dX6_init_6 rfl hz rfl (by rfl) (Nat.le_of_ble_eq_true rfl) rfl ?_
  refine J_aload_n (pc1 := 10) rfl (i := 0) rfl dX6_init_9 rfl ?_
  refine J_iconst (pc1 := 11) dX6_init_10 rfl ?_
  refine J_put (pc1 := 14) (ty := .int) (j := 1) (fs1 := [.int (iI 4), .int (iI 4), .int (iI p), .int (iI t), .int (iI w)]) inUX6 (ci := 6) rfl (by decide) tyX6 tyX6_ok nmX6 rfl (by decide +kernel) lf_X6_15 dX6_init_11 rfl (pu_self _ _ _) rfl (by rfl) (Nat.le_of_ble_eq_true rfl) rfl ?_
  rw [pu_pu]
  exact J_vret rfl dX6_init_14 (Nat.le_refl _) (Nat.le_refl _) (kN_mk rfl)
set_option maxHeartbeats 400000 in
set_option maxRecDepth 20000 in
theorem c_X6_startAnew {S : pS} {z : Nat} {b h p t w : Int} (hz : S z = some (sdO b h p t w)) : Ct yX6_startAnew cX6_startAnew 1 none 0 0 0 [.ref z] S (kN (pu S z (sdO b b 0 0 w))) := by
  refine Ct.ofJ (by decide +kernel) (Nat.le_of_ble_eq_true rfl) ?_
  refine J_L (L1 := [some (.ref z)]) rfl ?_
  refine J_aload_n (pc1 := 1) rfl (i := 0) rfl dX6_startAnew_0 rfl ?_
  refine J_aload_n (pc1 := 2) rfl (i := 0) rfl dX6_startAnew_1 rfl ?_
  refine J_get (pc1 := 5) (j := 0) inUX6 (ci := 6) rfl (by decide) lf_X6_9 dX6_startAnew_2 rfl hz rfl ?_
  refine J_put (pc1 := 8) (ty := .int) (j := 1) (fs1 := [.int (iI b), .int (iI b), .int (iI p), .int (iI t), .int (iI w)]) inUX6 (ci := 6) rfl (by decide) tyX6 tyX6_ok nmX6 rfl (by decide +kernel) lf_X6_15 dX6_startAnew_5 rfl hz rfl (by rfl) (Nat.le_of_ble_eq_true rfl) rfl ?_
  refine J_aload_n (pc1 := 9) rfl (i := 0) rfl dX6_startAnew_8 rfl ?_
  refine J_iconst (pc1 := 10) dX6_startAnew_9 rfl ?_
  refine J_put (pc1 := 13) (ty := .int) (j := 2) (fs1 := [.int (iI b), .int (iI b), .int (iI 0), .int (iI t), .int (iI w)]) inUX6 (ci := 6) rfl (by decide) tyX6 tyX6_ok nmX6 rfl (by decide +kernel) lf_X6_18 dX6_startAnew_10 rfl (pu_self _ _ _) rfl (by rfl) (Nat.le_of_ble_eq_true rfl) rfl ?_
  rw [pu_pu]
  refine J_aload_n (pc1 := 14) rfl (i := 0) rfl dX6_startAnew_13 rfl ?_
  refine J_iconst (pc1 := 15) dX6_startAnew_14 rfl ?_
  refine J_put (pc1 := 18) (ty := .int) (j := 3) (fs1 := [.int (iI b), .int (iI b), .int (iI 0), .int (iI 0), .int (iI w)]) inUX6 (ci := 6) rfl (by decide) tyX6 tyX6_ok nmX6 rfl (by decide +kernel) lf_X6_21 dX6_startAnew_15 rfl (pu_self _ _ _) rfl (by rfl) (Nat.le_of_ble_eq_true rfl) rfl ?_
  rw [pu_pu]
  exact J_vret rfl dX6_startAnew_18 (Nat.le_refl _) (Nat.le_refl _) (kN_mk rfl)
set_option maxHeartbeats 400000 in
set_option maxRecDepth 20000 in
theorem c_X6_copyFrom {S : pS} {z z2 : Nat} {b h p t w b2 h2 p2 t2 w2 : Int} (hz : S z = some (sdO b h p t w)) (hz2 : S z2 = some (sdO b2 h2 p2 t2 w2)) (hne : z2 ≠ z) : Ct yX6_copyFrom cX6_copyFrom 2 none 0 0 0 [.ref z, .ref z2] S (kN (pu S z (sdO b2 h2 p2 t2 w2))) := by
  refine Ct.ofJ (by decide +kernel) (Nat.le_of_ble_eq_true rfl) ?_
  refine J_L (L1 := [some (.ref z), some (.ref z2)]) rfl ?_
  refine J_aload_n (pc1 := 1) rfl (i := 0) rfl dX6_copyFrom_0 rfl ?_
  refine J_aload_n (pc1 := 2) rfl (i := 1) rfl dX6_copyFrom_1 rfl ?_
  refine J_get (pc1 := 5) (j := 0) inUX6 (ci := 6) rfl (by decide) lf_X6_9 dX6_copyFrom_2 rfl hz2 rfl ?_
  refine J_put (pc1 := 8) (ty := .int) (j := 0) (fs1 := [.int (iI b2), .int (iI h), .int (iI p), .int (iI t), .int (iI w)]) inUX6 (ci := 6) rfl (by decide) tyX6 tyX6_ok nmX6 rfl (by decide +kernel) lf_X6_9 dX6_copyFrom_5 rfl hz rfl (by rfl) (Nat.le_of_ble_eq_true rfl) rfl ?_
  refine J_aload_n (pc1 := 9) rfl (i := 0) rfl dX6_copyFrom_8 rfl ?_
  refine J_aload_n (pc1 := 10) rfl (i := 1) rfl dX6_copyFrom_9 rfl ?_
  refine J_get (pc1 := 13) (j := 1) inUX6 (ci := 6) rfl (by decide) lf_X6_15 dX6_copyFrom_10 rfl ((pu_ne _ _ hne).trans hz2) rfl ?_
  refine J_put (pc1 := 16) (ty := .int) (j := 1) (fs1 := [.int (iI b2), .int (iI h2), .int (iI p), .int (iI t), .int (iI w)]) inUX6 (ci := 6) rfl (by decide) tyX6 tyX6_ok nmX6 rfl (by decide +kernel) lf_X6_15 dX6_copyFrom_13 rfl (pu_self _ _ _) rfl (by rfl) (Nat.le_of_ble_eq_true rfl) rfl ?_
  rw [pu_pu]
  refine J_aload_n (pc1 := 17) rfl (i := 0) rfl dX6_copyFrom_16 rfl ?_
  refine J_aload_n (pc1 := 18) rfl (i := 1) rfl dX6_copyFrom_17 rfl ?_
  refine J_get (pc1 := 21) (j := 2) inUX6 (ci := 6) rfl (by decide) lf_X6_18 dX6_copyFrom_18 rfl ((pu_ne _ _ hne).trans hz2) rfl ?_
  refine J_put (pc1 := 24) (ty := .int) (j := 2) (fs1 := [.int (iI b2), .int (iI h2), .int (iI p2), .int (iI t), .int (iI w)]) inUX6 (ci := 6) rfl (by decide) tyX6 tyX6_ok nmX6 rfl (by decide +kernel) lf_X6_18 dX6_copyFrom_21 rfl (pu_self _ _ _) rfl (by rfl) (Nat.le_of_ble_eq_true rfl) rfl ?_
  rw [pu_pu]
  refine J_aload_n (pc1 := 25) rfl (i := 0) rfl dX6_copyFrom_24 rfl ?_
  refine J_aload_n (pc1 := 26) rfl (i := 1) rfl dX6_copyFrom_25 rfl ?_
  refine J_get (pc1 := 29) (j := 3) inUX6 (ci := 6) rfl (by decide) lf_X6_21 dX6_copyFrom_26 rfl ((pu_ne _ _ hne).trans hz2) rfl ?_
  refine J_put (pc1 := 32) (ty := .int) (j := 3) (fs1 := [.int (iI b2), .int (iI h2), .int (iI p2), .int (iI t2), .int (iI w)]) inUX6 (ci := 6) rfl (by decide) tyX6 tyX6_ok nmX6 rfl (by decide +kernel) lf_X6_21 dX6_copyFrom_29 rfl (pu_self _ _ _) rfl (by rfl) (Nat.le_of_ble_eq_true rfl) rfl ?_
  rw [pu_pu]
  refine J_aload_n (pc1 := 33) rfl (i := 0) rfl dX6_copyFrom_32 rfl ?_
  refine J_aload_n (pc1 := 34) rfl (i := 1) rfl dX6_copyFrom_33 rfl ?_
  refine J_get (pc1 := 37) (j := 4) inUX6 (ci := 6) rfl (by decide) lf_X6_24 dX6_copyFrom_34 rfl ((pu_ne _ _ hne).trans hz2) rfl ?_
  refine J_put (pc1 := 40) (ty := .int) (j := 4) (fs1 := [.int (iI b2), .int (iI h2), .int (iI p2), .int (iI t2), .int (iI w2)]) inUX6 (ci := 6) rfl (by decide) tyX6 tyX6_ok nmX6 rfl (by decide +kernel) lf_X6_24 dX6_copyFrom_37 rfl (pu_self _ _ _) rfl (by rfl) (Nat.le_of_ble_eq_true rfl) rfl ?_
  rw [pu_pu]
  exact J_vret rfl dX6_copyFrom_40 (Nat.le_refl _) (Nat.le_refl _) (kN_mk rfl)
/-- a game's cells hold another row; nothing else has changed -/
def UG (S : pS) (g z o : Nat) (f : Int → Int) (T : pS) : Prop := IsG T g z o f ∧ ∀ x, x ≠ g → x ≠ z → x ≠ o → T x = S x
theorem gmO_c {f : Int → Int} {z o : Nat} {a0 a1 a2 a3 a4 a5 a6 a7 : Int} (h0 : a0 = f 0) (h1 : a1 = f 1) (h2 : a2 = f 2) (h3 : a3 = f 3) (h4 : a4 = f 4) (h5 : a5 = f 5) (h6 : a6 = f 6) (h7 : a7 = f 17) : some (oO 2 [.int (iI a0), .int (iI a1), .int (iI a2), .int (iI a3), .int (iI a4), .int (iI a5), .int (iI a6), .int (iI a7), .ref z, .ref o]) = some (gameO f z o) := by rw [h0, h1, h2, h3, h4, h5, h6, h7]
theorem sdO_c {b h p t w b2 h2 p2 t2 w2 : Int} (e1 : b = b2) (e2 : h = h2) (e3 : p = p2) (e4 : t = t2) (e5 : w = w2) : some (sdO b h p t w) = some (sdO b2 h2 p2 t2 w2) := by rw [e1, e2, e3, e4, e5]
def newF (f : Int → Int) : Int → Int := fun j => if j = 4 then 0 else if j = 5 then 0 else if j = 6 then 0 else if j = 17 then 0 else if j = 7 then f 9 else if j = 8 then f 10 else if j = 11 then 0 else if j = 12 then 0 else if j = 13 then 0 else if j = 14 then 0 else f j
def zeF : Int → Int := fun j => if j = 0 then 2 else if j = 7 then 4 else if j = 8 then 4 else if j = 9 then 4 else if j = 10 then 4 else 0
set_option maxHeartbeats 400000 in
set_option maxRecDepth 20000 in
theorem c_X2_startAnew {S : pS} {g z o : Nat} {f : Int → Int} (hg : IsG S g z o f) : Ct yX2_startAnew cX2_startAnew 1 none 1 0 0 [.ref g] S (kNS (UG S g z o (newF f))) := by
  refine Ct.ofJ (by decide +kernel) (Nat.le_of_ble_eq_true rfl) ?_
  refine J_L (L1 := [some (.ref g)]) rfl ?_
  refine J_aload_n (pc1 := 1) rfl (i := 0) rfl dX2_startAnew_0 rfl ?_
  refine J_iconst (pc1 := 2) dX2_startAnew_1 rfl ?_
  refine J_put (pc1 := 5) (ty := .int) (j := 4) (fs1 := [.int (iI (f 0)), .int (iI (f 1)), .int (iI (f 2)), .int (iI (f 3)), .int (iI 0), .int (iI (f 5)), .int (iI (f 6)), .int (iI (f 17)), .ref z, .ref o]) inUX2 (ci := 2) rfl (by decide) tyX2 tyX2_ok nmX2 rfl (by decide +kernel) lf_X2_34 dX2_startAnew_2 rfl hg.1 rfl (by rfl) (Nat.le_of_ble_eq_true rfl) rfl ?_
  refine J_aload_n (pc1 := 6) rfl (i := 0) rfl dX2_startAnew_5 rfl ?_
  refine J_iconst (pc1 := 7) dX2_startAnew_6 rfl ?_
  refine J_put (pc1 := 10) (ty := .int) (j := 5) (fs1 := [.int (iI (f 0)), .int (iI (f 1)), .int (iI (f 2)), .int (iI (f 3)), .int (iI 0), .int (iI 0), .int (iI (f 6)), .int (iI (f 17)), .ref z, .ref o]) inUX2 (ci := 2) rfl (by decide) tyX2 tyX2_ok nmX2 rfl (by decide +kernel) lf_X2_37 dX2_startAnew_7 rfl (pu_self _ _ _) rfl (by rfl) (Nat.le_of_ble_eq_true rfl) rfl ?_
  rw [pu_pu]
  refine J_aload_n (pc1 := 11) rfl (i := 0) rfl dX2_startAnew_10 rfl ?_
  refine J_iconst (pc1 := 12) dX2_startAnew_11 rfl ?_
  refine J_put (pc1 := 15) (ty := .int) (j := 6) (fs1 := [.int (iI (f 0)), .int (iI (f 1)), .int (iI (f 2)), .int (iI (f 3)), .int (iI 0), .int (iI 0), .int (iI 0), .int (iI (f 17)), .ref z, .ref o]) inUX2 (ci := 2) rfl (by decide) tyX2 tyX2_ok nmX2 rfl (by decide +kernel) lf_X2_40 dX2_startAnew_12 rfl (pu_self _ _ _) rfl (by rfl) (Nat.le_of_ble_eq_true rfl) rfl ?_
  rw [pu_pu]
  refine J_aload_n (pc1 := 16) rfl (i := 0) rfl dX2_startAnew_15 rfl ?_
  refine J_iconst (pc1 := 17) dX2_startAnew_16 rfl ?_
  refine J_put (pc1 := 20) (ty := .int) (j := 7) (fs1 := [.int (iI (f 0)), .int (iI (f 1)), .int (iI (f 2)), .int (iI (f 3)), .int (iI 0), .int (iI 0), .int (iI 0), .int (iI 0), .ref z, .ref o]) inUX2 (ci := 2) rfl (by decide) tyX2 tyX2_ok nmX2 rfl (by decide +kernel) lf_X2_43 dX2_startAnew_17 rfl (pu_self _ _ _) rfl (by rfl) (Nat.le_of_ble_eq_true rfl) rfl ?_
  rw [pu_pu]
  refine J_aload_n (pc1 := 21) rfl (i := 0) rfl dX2_startAnew_20 rfl ?_
  refine J_get (pc1 := 24) (j := 8) inUX2 (ci := 2) rfl (by decide) lf_X2_18 dX2_startAnew_21 rfl (pu_self _ _ _) rfl ?_
  refine J_callVN (pc1 := 27) (As := []) gv_X2_50 yv_X6_startAnew rfl (c_X6_startAnew ((pu_ne _ _ (ne_ci hg.2.1 hg.1 (by decide))).trans hg.2.1)) dX2_startAnew_24 rfl ((pu_ne _ _ (ne_ci hg.2.1 hg.1 (by decide))).trans hg.2.1) rfl rfl (by omega) (by decide) (Nat.zero_le _) (Nat.zero_le _) (Nat.le_of_ble_eq_true rfl) ?_
  refine J_aload_n (pc1 := 28) rfl (i := 0) rfl dX2_startAnew_27 rfl ?_
  refine J_get (pc1 := 31) (j := 9) inUX2 (ci := 2) rfl (by decide) lf_X2_22 dX2_startAnew_28 rfl ((pu_ne _ _ (ne_ci hg.1 hg.2.1 (by decide))).trans (pu_self _ _ _)) rfl ?_
  refine J_callVN (pc1 := 34) (As := []) gv_X2_50 yv_X6_startAnew rfl (c_X6_startAnew ((pu_ne _ _ (Ne.symm hg.2.2.2)).trans ((pu_ne _ _ (ne_ci hg.2.2.1 hg.1 (by decide))).trans hg.2.2.1))) dX2_startAnew_31 rfl ((pu_ne _ _ (Ne.symm hg.2.2.2)).trans ((pu_ne _ _ (ne_ci hg.2.2.1 hg.1 (by decide))).trans hg.2.2.1)) rfl rfl (by omega) (by decide) (Nat.zero_le _) (Nat.zero_le _) (Nat.le_of_ble_eq_true rfl) ?_
  exact J_vret rfl dX2_startAnew_34 (Nat.le_refl _) (Nat.le_refl _) (⟨rfl, ⟨⟨(((pu_ne _ _ (ne_ci hg.1 hg.2.2.1 (by decide))).trans ((pu_ne _ _ (ne_ci hg.1 hg.2.1 (by decide))).trans (pu_self _ _ _))).trans (gmO_c (by rfl) (by rfl) (by rfl) (by rfl) (by rfl) (by rfl) (by rfl) (by rfl))), (((pu_ne _ _ hg.2.2.2).trans (pu_self _ _ _)).trans (sdO_c (by rfl) (by rfl) (by rfl) (by rfl) (by rfl))), ((pu_self _ _ _).trans (sdO_c (by rfl) (by rfl) (by rfl) (by rfl) (by rfl))), hg.2.2.2⟩, fun x h1 h2 h3 => ((pu_ne _ _ h3).trans ((pu_ne _ _ h2).trans (pu_ne _ _ h1)))⟩⟩)
set_option maxHeartbeats 1000000 in
set_option maxRecDepth 20000 in
theorem c_X2_copyFrom {S : pS} {g z o : Nat} {f : Int → Int} (hg : IsG S g z o f) {h z2 o2 : Nat} {f2 : Int → Int} (hh : IsG S h z2 o2 f2) (hgh : h ≠ g) (q1 : z2 ≠ z) (q2 : z2 ≠ o) (q3 : o2 ≠ z) (q4 : o2 ≠ o) : Ct yX2_copyFrom cX2_copyFrom 2 none 1 0 0 [.ref g, .ref h] S (kNS (UG S g z o f2)) := by
  refine Ct.ofJ (by decide +kernel) (Nat.le_of_ble_eq_true rfl) ?_
  refine J_L (L1 := [some (.ref g), some (.ref h)]) rfl ?_
  refine J_aload_n (pc1 := 1) rfl (i := 0) rfl dX2_copyFrom_0 rfl ?_
  refine J_aload_n (pc1 := 2) rfl (i := 1) rfl dX2_copyFrom_1 rfl ?_
  refine J_get (pc1 := 5) (j := 0) inUX2 (ci := 2) rfl (by decide) lf_X2_9 dX2_copyFrom_2 rfl hh.1 rfl ?_
  refine J_put (pc1 := 8) (ty := .int) (j := 0) (fs1 := [.int (iI (f2 0)), .int (iI (f 1)), .int (iI (f 2)), .int (iI (f 3)), .int (iI (f 4)), .int (iI (f 5)), .int (iI (f 6)), .int (iI (f 17)), .ref z, .ref o]) inUX2 (ci := 2) rfl (by decide) tyX2 tyX2_ok nmX2 rfl (by decide +kernel) lf_X2_9 dX2_copyFrom_5 rfl hg.1 rfl (by rfl) (Nat.le_of_ble_eq_true rfl) rfl ?_
  refine J_aload_n (pc1 := 9) rfl (i := 0) rfl dX2_copyFrom_8 rfl ?_
  refine J_aload_n (pc1 := 10) rfl (i := 1) rfl dX2_copyFrom_9 rfl ?_
  refine J_get (pc1 := 13) (j := 1) inUX2 (ci := 2) rfl (by decide) lf_X2_25 dX2_copyFrom_10 rfl ((pu_ne _ _ hgh).trans hh.1) rfl ?_
  refine J_put (pc1 := 16) (ty := .int) (j := 1) (fs1 := [.int (iI (f2 0)), .int (iI (f2 1)), .int (iI (f 2)), .int (iI (f 3)), .int (iI (f 4)), .int (iI (f 5)), .int (iI (f 6)), .int (iI (f 17)), .ref z, .ref o]) inUX2 (ci := 2) rfl (by decide) tyX2 tyX2_ok nmX2 rfl (by decide +kernel) lf_X2_25 dX2_copyFrom_13 rfl (pu_self _ _ _) rfl (by rfl) (Nat.le_of_ble_eq_true rfl) rfl ?_
  rw [pu_pu]
  refine J_aload_n (pc1 := 17) rfl (i := 0) rfl dX2_copyFrom_16 rfl ?_
  refine J_aload_n (pc1 := 18) rfl (i := 1) rfl dX2_copyFrom_17 rfl ?_
  refine J_get (pc1 := 21) (j := 2) inUX2 (ci := 2) rfl (by decide) lf_X2_28 dX2_copyFrom_18 rfl ((pu_ne _ _ hgh).trans hh.1) rfl ?_
  refine J_put (pc1 := 24) (ty := .int) (j := 2) (fs1 := [.int (iI (f2 0)), .int (iI (f2 1)), .int (iI (f2 2)), .int (iI (f 3)), .int (iI (f 4)), .int (iI (f 5)), .int (iI (f 6)), .int (iI (f 17)), .ref z, .ref o]) inUX2 (ci := 2) rfl (by decide) tyX2 tyX2_ok nmX2 rfl (by decide +kernel) lf_X2_28 dX2_copyFrom_21 rfl (pu_self _ _ _) rfl (by rfl) (Nat.le_of_ble_eq_true rfl) rfl ?_
  rw [pu_pu]
  refine J_aload_n (pc1 := 25) rfl (i := 0) rfl dX2_copyFrom_24 rfl ?_
  refine J_aload_n (pc1 := 26) rfl (i := 1) rfl dX2_copyFrom_25 rfl ?_
  refine J_get (pc1 := 29) (j := 3) inUX2 (ci := 2) rfl (by decide) lf_X2_31 dX2_copyFrom_26 rfl ((pu_ne _ _ hgh).trans hh.1) rfl ?_
  refine J_put (pc1 := 32) (ty := .int) (j := 3) (fs1 := [.int (iI (f2 0)), .int (iI (f2 1)), .int (iI (f2 2)), .int (iI (f2 3)), .int (iI (f 4)), .int (iI (f 5)), .int (iI (f 6)), .int (iI (f 17)), .ref z, .ref o]) inUX2 (ci := 2) rfl (by decide) tyX2 tyX2_ok nmX2 rfl (by decide +kernel) lf_X2_31 dX2_copyFrom_29 rfl (pu_self _ _ _) rfl (by rfl) (Nat.le_of_ble_eq_true rfl) rfl ?_
  rw [pu_pu]
  refine J_aload_n (pc1 := 33) rfl (i := 0) rfl dX2_copyFrom_32 rfl ?_
  refine J_aload_n (pc1 := 34) rfl (i := 1) rfl dX2_copyFrom_33 rfl ?_
  refine J_get (pc1 := 37) (j := 4) inUX2 (ci := 2) rfl (by decide) lf_X2_34 dX2_copyFrom_34 rfl ((pu_ne _ _ hgh).trans hh.1) rfl ?_
  refine J_put (pc1 := 40) (ty := .int) (j := 4) (fs1 := [.int (iI (f2 0)), .int (iI (f2 1)), .int (iI (f2 2)), .int (iI (f2 3)), .int (iI (f2 4)), .int (iI (f 5)), .int (iI (f 6)), .int (iI (f 17)), .ref z, .ref o]) inUX2 (ci := 2) rfl (by decide) tyX2 tyX2_ok nmX2 rfl (by decide +kernel) lf_X2_34 dX2_copyFrom_37 rfl (pu_self _ _ _) rfl (by rfl) (Nat.le_of_ble_eq_true rfl) rfl ?_
  rw [pu_pu]
  refine J_aload_n (pc1 := 41) rfl (i := 0) rfl dX2_copyFrom_40 rfl ?_
  refine J_aload_n (pc1 := 42) rfl (i := 1) rfl dX2_copyFrom_41 rfl ?_
  refine J_get (pc1 := 45) (j := 5) inUX2 (ci := 2) rfl (by decide) lf_X2_37 dX2_copyFrom_42 rfl ((pu_ne _ _ hgh).trans hh.1) rfl ?_
  refine J_put (pc1 := 48) (ty := .int) (j := 5) (fs1 := [.int (iI (f2 0)), .int (iI (f2 1)), .int (iI (f2 2)), .int (iI (f2 3)), .int (iI (f2 4)), .int (iI (f2 5)), .int (iI (f 6)), .int (iI (f 17)), .ref z, .ref o]) inUX2 (ci := 2) rfl (by decide) tyX2 tyX2_ok nmX2 rfl (by decide +kernel) lf_X2_37 dX2_copyFrom_45 rfl (pu_self _ _ _) rfl (by rfl) (Nat.le_of_ble_eq_true rfl) rfl ?_
  rw [pu_pu]
  refine J_aload_n (pc1 := 49) rfl (i := 0) rfl dX2_copyFrom_48 rfl ?_
  refine J_aload_n (pc1 := 50) rfl (i := 1) rfl dX2_copyFrom_49 rfl ?_
  refine J_get (pc1 := 53) (j := 6) inUX2 (ci := 2) rfl (by decide) lf_X2_40 dX2_copyFrom_50 rfl ((pu_ne _ _ hgh).trans hh.1) rfl ?_
  refine J_put (pc1 := 56) (ty := .int) (j := 6) (fs1 := [.int (iI (f2 0)), .int (iI (f2 1)), .int (iI (f2 2)), .int (iI (f2 3)), .int (iI (f2 4)), .int (iI (f2 5)), .int (iI (f2 6)), .int (iI (f 17)), .ref z, .ref o]) inUX2 (ci := 2) rfl (by decide) tyX2 tyX2_ok nmX2 rfl (by decide +kernel) lf_X2_40 dX2_copyFrom_53 rfl (pu_self _ _ _) rfl (by rfl) (Nat.le_of_ble_eq_true rfl) rfl ?_
  rw [pu_pu]
  refine J_aload_n (pc1 := 57) rfl (i := 0) rfl dX2_copyFrom_56 rfl ?_
  refine J_aload_n (pc1 := 58) rfl (i := 1) rfl dX2_copyFrom_57 rfl ?_
  refine J_get (pc1 := 61) (j := 7) inUX2 (ci := 2) rfl (by decide) lf_X2_43 dX2_copyFrom_58 rfl ((pu_ne _ _ hgh).trans hh.1) rfl ?_
  refine J_put (pc1 := 64) (ty := .int) (j := 7) (fs1 := [.int (iI (f2 0)), .int (iI (f2 1)), .int (iI (f2 2)), .int (iI (f2 3)), .int (iI (f2 4)), .int (iI (f2 5)), .int (iI (f2 6)), .int (iI (f2 17)), .ref z, .ref o]) inUX2 (ci := 2) rfl (by decide) tyX2 tyX2_ok nmX2 rfl (by decide +kernel) lf_X2_43 dX2_copyFrom_61 rfl (pu_self _ _ _) rfl (by rfl) (Nat.le_of_ble_eq_true rfl) rfl ?_
  rw [pu_pu]
  refine J_aload_n (pc1 := 65) rfl (i := 0) rfl dX2_copyFrom_64 rfl ?_
  refine J_get (pc1 := 68) (j := 8) inUX2 (ci := 2) rfl (by decide) lf_X2_18 dX2_copyFrom_65 rfl (pu_self _ _ _) rfl ?_
  refine J_aload_n (pc1 := 69) rfl (i := 1) rfl dX2_copyFrom_68 rfl ?_
  refine J_get (pc1 := 72) (j := 8) inUX2 (ci := 2) rfl (by decide) lf_X2_18 dX2_copyFrom_69 rfl ((pu_ne _ _ hgh).trans hh.1) rfl ?_
  refine J_callVN (pc1 := 75) (As := [.ref z2]) gv_X2_46 yv_X6_copyFrom rfl (c_X6_copyFrom ((pu_ne _ _ (ne_ci hg.2.1 hg.1 (by decide))).trans hg.2.1) ((pu_ne _ _ (ne_ci hh.2.1 hg.1 (by decide))).trans hh.2.1) q1) dX2_copyFrom_72 rfl ((pu_ne _ _ (ne_ci hg.2.1 hg.1 (by decide))).trans hg.2.1) rfl rfl (by omega) (by decide) (Nat.zero_le _) (Nat.zero_le _) (Nat.le_of_ble_eq_true rfl) ?_
  refine J_aload_n (pc1 := 76) rfl (i := 0) rfl dX2_copyFrom_75 rfl ?_
  refine J_get (pc1 := 79) (j := 9) inUX2 (ci := 2) rfl (by decide) lf_X2_22 dX2_copyFrom_76 rfl ((pu_ne _ _ (ne_ci hg.1 hg.2.1 (by decide))).trans (pu_self _ _ _)) rfl ?_
  refine J_aload_n (pc1 := 80) rfl (i := 1) rfl dX2_copyFrom_79 rfl ?_
  refine J_get (pc1 := 83) (j := 9) inUX2 (ci := 2) rfl (by decide) lf_X2_22 dX2_copyFrom_80 rfl ((pu_ne _ _ (ne_ci hh.1 hg.2.1 (by decide))).trans ((pu_ne _ _ hgh).trans hh.1)) rfl ?_
  refine J_callVN (pc1 := 86) (As := [.ref o2]) gv_X2_46 yv_X6_copyFrom rfl (c_X6_copyFrom ((pu_ne _ _ (Ne.symm hg.2.2.2)).trans ((pu_ne _ _ (ne_ci hg.2.2.1 hg.1 (by decide))).trans hg.2.2.1)) ((pu_ne _ _ q3).trans ((pu_ne _ _ (ne_ci hh.2.2.1 hg.1 (by decide))).trans hh.2.2.1)) q4) dX2_copyFrom_83 rfl ((pu_ne _ _ (Ne.symm hg.2.2.2)).trans ((pu_ne _ _ (ne_ci hg.2.2.1 hg.1 (by decide))).trans hg.2.2.1)) rfl rfl (by omega) (by decide) (Nat.zero_le _) (Nat.zero_le _) (Nat.le_of_ble_eq_true rfl) ?_
  exact J_vret rfl dX2_copyFrom_86 (Nat.le_refl _) (Nat.le_refl _) (⟨rfl, ⟨⟨(((pu_ne _ _ (ne_ci hg.1 hg.2.2.1 (by decide))).trans ((pu_ne _ _ (ne_ci hg.1 hg.2.1 (by decide))).trans (pu_self _ _ _))).trans (gmO_c (by rfl) (by rfl) (by rfl) (by rfl) (by rfl) (by rfl) (by rfl) (by rfl))), (((pu_ne _ _ hg.2.2.2).trans (pu_self _ _ _)).trans (sdO_c (by rfl) (by rfl) (by rfl) (by rfl) (by rfl))), ((pu_self _ _ _).trans (sdO_c (by rfl) (by rfl) (by rfl) (by rfl) (by rfl))), hg.2.2.2⟩, fun x h1 h2 h3 => ((pu_ne _ _ h3).trans ((pu_ne _ _ h2).trans (pu_ne _ _ h1)))⟩⟩)
set_option maxHeartbeats 400000 in
set_option maxRecDepth 20000 in
theorem c_X2_changeSetting {S : pS} {g z o : Nat} {f : Int → Int} (hg : IsG S g z o f) {k v : Int} (hk : 0 ≤ k ∧ k ≤ 3) : Ct yX2_changeSetting cX2_changeSetting 3 none 0 0 0 [.ref g, .int (iI k), .int (iI v)] S (kNS (UG S g z o (uZ f k v))) := by
  refine Ct.ofJ (by decide +kernel) (Nat.le_of_ble_eq_true rfl) ?_
  refine J_L (L1 := [some (.ref g), some (.int (iI k)), some (.int (iI v))]) rfl ?_
  refine J_iload_n (pc1 := 1) rfl (i := 1) rfl dX2_changeSetting_0 rfl ?_
  rcases (show k = 0 ∨ k = 1 ∨ k = 2 ∨ (k < 0 ∨ 2 < k) by omega) with hs1 | hs1 | hs1 | hs1
  · refine J_tableIn (tgt := 28) (by omega) (by omega) dX2_changeSetting_1 (by omega) (by omega) (by rw [hs1]; rfl) rfl ?_
    refine J_aload_n (pc1 := 29) rfl (i := 0) rfl dX2_changeSetting_28 rfl ?_
    refine J_iload_n (pc1 := 30) rfl (i := 2) rfl dX2_changeSetting_29 rfl ?_
    refine J_put (pc1 := 33) (ty := .int) (j := 0) (fs1 := [.int (iI v), .int (iI (f 1)), .int (iI (f 2)), .int (iI (f 3)), .int (iI (f 4)), .int (iI (f 5)), .int (iI (f 6)), .int (iI (f 17)), .ref z, .ref o]) inUX2 (ci := 2) rfl (by decide) tyX2 tyX2_ok nmX2 rfl (by decide +kernel) lf_X2_9 dX2_changeSetting_30 rfl hg.1 rfl (by rfl) (Nat.le_of_ble_eq_true rfl) rfl ?_
    refine J_goto (tgt := 57) dX2_changeSetting_33 rfl ?_
    exact J_vret rfl dX2_changeSetting_57 (Nat.le_refl _) (Nat.le_refl _) (⟨rfl, ⟨⟨((pu_self _ _ _).trans (gmO_c (by unfold uZ; first | (rw [hs1]; rfl) | (rw [show k = 3 by omega]; rfl)) (by unfold uZ; first | (rw [hs1]; rfl) | (rw [show k = 3 by omega]; rfl)) (by unfold uZ; first | (rw [hs1]; rfl) | (rw [show k = 3 by omega]; rfl)) (by unfold uZ; first | (rw [hs1]; rfl) | (rw [show k = 3 by omega]; rfl)) (by unfold uZ; first | (rw [hs1]; rfl) | (rw [show k = 3 by omega]; rfl)) (by unfold uZ; first | (rw [hs1]; rfl) | (rw [show k = 3 by omega]; rfl)) (by unfold uZ; first | (rw [hs1]; rfl) | (rw [show k = 3 by omega]; rfl)) (by unfold uZ; first | (rw [hs1]; rfl) | (rw [show k = 3 by omega]; rfl)))), (((pu_ne _ _ (ne_ci hg.2.1 hg.1 (by decide))).trans hg.2.1).trans (sdO_c (by unfold uZ; first | (rw [hs1]; rfl) | (rw [show k = 3 by omega]; rfl)) (by unfold uZ; first | (rw [hs1]; rfl) | (rw [show k = 3 by omega]; rfl)) (by unfold uZ; first | (rw [hs1]; rfl) | (rw [show k = 3 by omega]; rfl)) (by unfold uZ; first | (rw [hs1]; rfl) | (rw [show k = 3 by omega]; rfl)) (by unfold uZ; first | (rw [hs1]; rfl) | (rw [show k = 3 by omega]; rfl)))), (((pu_ne _ _ (ne_ci hg.2.2.1 hg.1 (by decide))).trans hg.2.2.1).trans (sdO_c (by unfold uZ; first | (rw [hs1]; rfl) | (rw [show k = 3 by omega]; rfl)) (by unfold uZ; first | (rw [hs1]; rfl) | (rw [show k = 3 by omega]; rfl)) (by unfold uZ; first | (rw [hs1]; rfl) | (rw [show k = 3 by omega]; rfl)) (by unfold uZ; first | (rw [hs1]; rfl) | (rw [show k = 3 by omega]; rfl)) (by unfold uZ; first | (rw [hs1]; rfl) | (rw [show k = 3 by omega]; rfl)))), hg.2.2.2⟩, fun x h1 h2 h3 => (pu_ne _ _ h1)⟩⟩)
  · refine J_tableIn (tgt := 36) (by omega) (by omega) dX2_changeSetting_1 (by omega) (by omega) (by rw [hs1]; rfl) rfl ?_
    refine J_aload_n (pc1 := 37) rfl (i := 0) rfl dX2_changeSetting_36 rfl ?_
    refine J_iload_n (pc1 := 38) rfl (i := 2) rfl dX2_changeSetting_37 rfl ?_
    refine J_put (pc1 := 41) (ty := .int) (j := 1) (fs1 := [.int (iI (f 0)), .int (iI v), .int (iI (f 2)), .int (iI (f 3)), .int (iI (f 4)), .int (iI (f 5)), .int (iI (f 6)), .int (iI (f 17)), .ref z, .ref o]) inUX2 (ci := 2) rfl (by decide) tyX2 tyX2_ok nmX2 rfl (by decide +kernel) lf_X2_25 dX2_changeSetting_38 rfl hg.1 rfl (by rfl) (Nat.le_of_ble_eq_true rfl) rfl ?_
    refine J_goto (tgt := 57) dX2_changeSetting_41 rfl ?_
    exact J_vret rfl dX2_changeSetting_57 (Nat.le_refl _) (Nat.le_refl _) (⟨rfl, ⟨⟨((pu_self _ _ _).trans (gmO_c (by unfold uZ; first | (rw [hs1]; rfl) | (rw [show k = 3 by omega]; rfl)) (by unfold uZ; first | (rw [hs1]; rfl) | (rw [show k = 3 by omega]; rfl)) (by unfold uZ; first | (rw [hs1]; rfl) | (rw [show k = 3 by omega]; rfl)) (by unfold uZ; first | (rw [hs1]; rfl) | (rw [show k = 3 by omega]; rfl)) (by unfold uZ; first | (rw [hs1]; rfl) | (rw [show k = 3 by omega]; rfl)) (by unfold uZ; first | (rw [hs1]; rfl) | (rw [show k = 3 by omega]; rfl)) (by unfold uZ; first | (rw [hs1]; rfl) | (rw [show k = 3 by omega]; rfl)) (by unfold uZ; first | (rw [hs1]; rfl) | (rw [show k = 3 by omega]; rfl)))), (((pu_ne _ _ (ne_ci hg.2.1 hg.1 (by decide))).trans hg.2.1).trans (sdO_c (by unfold uZ; first | (rw [hs1]; rfl) | (rw [show k = 3 by omega]; rfl)) (by unfold uZ; first | (rw [hs1]; rfl) | (rw [show k = 3 by omega]; rfl)) (by unfold uZ; first | (rw [hs1]; rfl) | (rw [show k = 3 by omega]; rfl)) (by unfold uZ; first | (rw [hs1]; rfl) | (rw [show k = 3 by omega]; rfl)) (by unfold uZ; first | (rw [hs1]; rfl) | (rw [show k = 3 by omega]; rfl)))), (((pu_ne _ _ (ne_ci hg.2.2.1 hg.1 (by decide))).trans hg.2.2.1).trans (sdO_c (by unfold uZ; first | (rw [hs1]; rfl) | (rw [show k = 3 by omega]; rfl)) (by unfold uZ; first | (rw [hs1]; rfl) | (rw [show k = 3 by omega]; rfl)) (by unfold uZ; first | (rw [hs1]; rfl) | (rw [show k = 3 by omega]; rfl)) (by unfold uZ; first | (rw [hs1]; rfl) | (rw [show k = 3 by omega]; rfl)) (by unfold uZ; first | (rw [hs1]; rfl) | (rw [show k = 3 by omega]; rfl)))), hg.2.2.2⟩, fun x h1 h2 h3 => (pu_ne _ _ h1)⟩⟩)
  · refine J_tableIn (tgt := 44) (by omega) (by omega) dX2_changeSetting_1 (by omega) (by omega) (by rw [hs1]; rfl) rfl ?_
    refine J_aload_n (pc1 := 45) rfl (i := 0) rfl dX2_changeSetting_44 rfl ?_
    refine J_iload_n (pc1 := 46) rfl (i := 2) rfl dX2_changeSetting_45 rfl ?_
    refine J_put (pc1 := 49) (ty := .int) (j := 2) (fs1 := [.int (iI (f 0)), .int (iI (f 1)), .int (iI v), .int (iI (f 3)), .int (iI (f 4)), .int (iI (f 5)), .int (iI (f 6)), .int (iI (f 17)), .ref z, .ref o]) inUX2 (ci := 2) rfl (by decide) tyX2 tyX2_ok nmX2 rfl (by decide +kernel) lf_X2_28 dX2_changeSetting_46 rfl hg.1 rfl (by rfl) (Nat.le_of_ble_eq_true rfl) rfl ?_
    refine J_goto (tgt := 57) dX2_changeSetting_49 rfl ?_
    exact J_vret rfl dX2_changeSetting_57 (Nat.le_refl _) (Nat.le_refl _) (⟨rfl, ⟨⟨((pu_self _ _ _).trans (gmO_c (by unfold uZ; first | (rw [hs1]; rfl) | (rw [show k = 3 by omega]; rfl)) (by unfold uZ; first | (rw [hs1]; rfl) | (rw [show k = 3 by omega]; rfl)) (by unfold uZ; first | (rw [hs1]; rfl) | (rw [show k = 3 by omega]; rfl)) (by unfold uZ; first | (rw [hs1]; rfl) | (rw [show k = 3 by omega]; rfl)) (by unfold uZ; first | (rw [hs1]; rfl) | (rw [show k = 3 by omega]; rfl)) (by unfold uZ; first | (rw [hs1]; rfl) | (rw [show k = 3 by omega]; rfl)) (by unfold uZ; first | (rw [hs1]; rfl) | (rw [show k = 3 by omega]; rfl)) (by unfold uZ; first | (rw [hs1]; rfl) | (rw [show k = 3 by omega]; rfl)))), (((pu_ne _ _ (ne_ci hg.2.1 hg.1 (by decide))).trans hg.2.1).trans (sdO_c (by unfold uZ; first | (rw [hs1]; rfl) | (rw [show k = 3 by omega]; rfl)) (by unfold uZ; first | (rw [hs1]; rfl) | (rw [show k = 3 by omega]; rfl)) (by unfold uZ; first | (rw [hs1]; rfl) | (rw [show k = 3 by omega]; rfl)) (by unfold uZ; first | (rw [hs1]; rfl) | (rw [show k = 3 by omega]; rfl)) (by unfold uZ; first | (rw [hs1]; rfl) | (rw [show k = 3 by omega]; rfl)))), (((pu_ne _ _ (ne_ci hg.2.2.1 hg.1 (by decide))).trans hg.2.2.1).trans (sdO_c (by unfold uZ; first | (rw [hs1]; rfl) | (rw [show k = 3 by omega]; rfl)) (by unfold uZ; first | (rw [hs1]; rfl) | (rw [show k = 3 by omega]; rfl)) (by unfold uZ; first | (rw [hs1]; rfl) | (rw [show k = 3 by omega]; rfl)) (by unfold uZ; first | (rw [hs1]; rfl) | (rw [show k = 3 by omega]; rfl)) (by unfold uZ; first | (rw [hs1]; rfl) | (rw [show k = 3 by omega]; rfl)))), hg.2.2.2⟩, fun x h1 h2 h3 => (pu_ne _ _ h1)⟩⟩)
  · refine J_tableOut (tgt := 52) (by omega) (by omega) dX2_changeSetting_1 hs1 rfl ?_
    refine J_aload_n (pc1 := 53) rfl (i := 0) rfl dX2_changeSetting_52 rfl ?_
    refine J_iload_n (pc1 := 54) rfl (i := 2) rfl dX2_changeSetting_53 rfl ?_
    refine J_put (pc1 := 57) (ty := .int) (j := 3) (fs1 := [.int (iI (f 0)), .int (iI (f 1)), .int (iI (f 2)), .int (iI v), .int (iI (f 4)), .int (iI (f 5)), .int (iI (f 6)), .int (iI (f 17)), .ref z, .ref o]) inUX2 (ci := 2) rfl (by decide) tyX2 tyX2_ok nmX2 rfl (by decide +kernel) lf_X2_31 dX2_changeSetting_54 rfl hg.1 rfl (by rfl) (Nat.le_of_ble_eq_true rfl) rfl ?_
    exact J_vret rfl dX2_changeSetting_57 (Nat.le_refl _) (Nat.le_refl _) (⟨rfl, ⟨⟨((pu_self _ _ _).trans (gmO_c (by unfold uZ; first | (rw [hs1]; rfl) | (rw [show k = 3 by omega]; rfl)) (by unfold uZ; first | (rw [hs1]; rfl) | (rw [show k = 3 by omega]; rfl)) (by unfold uZ; first | (rw [hs1]; rfl) | (rw [show k = 3 by omega]; rfl)) (by unfold uZ; first | (rw [hs1]; rfl) | (rw [show k = 3 by omega]; rfl)) (by unfold uZ; first | (rw [hs1]; rfl) | (rw [show k = 3 by omega]; rfl)) (by unfold uZ; first | (rw [hs1]; rfl) | (rw [show k = 3 by omega]; rfl)) (by unfold uZ; first | (rw [hs1]; rfl) | (rw [show k = 3 by omega]; rfl)) (by unfold uZ; first | (rw [hs1]; rfl) | (rw [show k = 3 by omega]; rfl)))), (((pu_ne _ _ (ne_ci hg.2.1 hg.1 (by decide))).trans hg.2.1).trans (sdO_c (by unfold uZ; first | (rw [hs1]; rfl) | (rw [show k = 3 by omega]; rfl)) (by unfold uZ; first | (rw [hs1]; rfl) | (rw [show k = 3 by omega]; rfl)) (by unfold uZ; first | (rw [hs1]; rfl) | (rw [show k = 3 by omega]; rfl)) (by unfold uZ; first | (rw [hs1]; rfl) | (rw [show k = 3 by omega]; rfl)) (by unfold uZ; first | (rw [hs1]; rfl) | (rw [show k = 3 by omega]; rfl)))), (((pu_ne _ _ (ne_ci hg.2.2.1 hg.1 (by decide))).trans hg.2.2.1).trans (sdO_c (by unfold uZ; first | (rw [hs1]; rfl) | (rw [show k = 3 by omega]; rfl)) (by unfold uZ; first | (rw [hs1]; rfl) | (rw [show k = 3 by omega]; rfl)) (by unfold uZ; first | (rw [hs1]; rfl) | (rw [show k = 3 by omega]; rfl)) (by unfold uZ; first | (rw [hs1]; rfl) | (rw [show k = 3 by omega]; rfl)) (by unfold uZ; first | (rw [hs1]; rfl) | (rw [show k = 3 by omega]; rfl)))), hg.2.2.2⟩, fun x h1 h2 h3 => (pu_ne _ _ h1)⟩⟩)
theorem pu_none2 {S : pS} {a b : Nat} {e : pE} (h : pu S a e b = none) : S b = none := (pu_none h).1
set_option maxHeartbeats 400000 in
set_option maxRecDepth 20000 in
theorem c_X2_init {S : pS} {g : Nat} (hg : S g = some (oO 2 [.int (iI 0), .int (iI 0), .int (iI 0), .int (iI 0), .int (iI 0), .int (iI 0), .int (iI 0), .int (iI 0), .null, .null])) : Ct yX2_init cX2_init 1 none 2 2 10 [.ref g] S (kNS (fun T => ∃ z o, IsG T g z o zeF ∧ S z = none ∧ S o = none ∧ ∀ x, S x ≠ none → x ≠ g → T x = S x)) := by
  refine Ct.ofJ (by decide +kernel) (Nat.le_of_ble_eq_true rfl) ?_
  refine J_L (L1 := [some (.ref g)]) rfl ?_
  refine J_aload_n (pc1 := 1) rfl (i := 0) rfl dX2_init_0 rfl ?_
  refine J_objInit (pc1 := 4) lm_X2_3 li_init_Object lc_init_Object dX2_init_1 rfl (by omega) (by decide) ?_
  refine J_aload_n (pc1 := 5) rfl (i := 0) rfl dX2_init_4 rfl ?_
  refine J_iconst (pc1 := 6) dX2_init_5 rfl ?_
  refine J_put (pc1 := 9) (ty := .int) (j := 0) (fs1 := [.int (iI 2), .int (iI 0), .int (iI 0), .int (iI 0), .int (iI 0), .int (iI 0), .int (iI 0), .int (iI 0), .null, .null]) inUX2 (ci := 2) rfl (by decide) tyX2 tyX2_ok nmX2 rfl (by decide +kernel) lf_X2_9 dX2_init_6 rfl hg rfl (by rfl) (Nat.le_of_ble_eq_true rfl) rfl ?_
  refine J_aload_n (pc1 := 10) rfl (i := 0) rfl dX2_init_9 rfl ?_
  refine J_new (pc1 := 13) (fs := [.int (iI 0), .int (iI 0), .int (iI 0), .int (iI 0), .int (iI 0)]) inUX6 (ci := 6) rfl tyX6 tyX6_ok ll_X2_15 lt_X6 ln_X6 df_X6 dX2_init_10 rfl (by omega) (by omega) (fun q1 n1 => ?_)
  have e_g_q1 : g ≠ q1 := ne_N (pu_self _ _ _) n1
  refine J_dup (pc1 := 14) rfl dX2_init_13 rfl ?_
  refine J_callIN_N (pc1 := 17) (As := []) (good_C lc_X6_init) yv_X6_init ln_X6 (host := "BorrowedHours") (List.mem_of_getElem? (i := 1) rfl) li_X6_init (c_X6_init (pu_self _ _ _)) dX2_init_14 rfl rfl rfl (by omega) (by decide) (by omega) (by omega) (Nat.le_of_ble_eq_true rfl) ?_
  refine J_putF (pc1 := 20) (ty := (.object "BorrowedHours$Side")) (j := 8) (fs1 := [.int (iI 2), .int (iI 0), .int (iI 0), .int (iI 0), .int (iI 0), .int (iI 0), .int (iI 0), .int (iI 0), .ref q1, .null]) inUX2 (ci := 2) rfl (by decide) tyX2 tyX2_ok nmX2 rfl rfl rfl (by decide +kernel) lf_X2_18 dX2_init_17 rfl ((pu_ne _ _ e_g_q1).trans ((pu_ne _ _ e_g_q1).trans (pu_self _ _ _))) rfl (by rfl) (Nat.le_of_ble_eq_true rfl) rfl ?_
  refine J_aload_n (pc1 := 21) rfl (i := 0) rfl dX2_init_20 rfl ?_
  refine J_new (pc1 := 24) (fs := [.int (iI 0), .int (iI 0), .int (iI 0), .int (iI 0), .int (iI 0)]) inUX6 (ci := 6) rfl tyX6 tyX6_ok ll_X2_15 lt_X6 ln_X6 df_X6 dX2_init_21 rfl (by omega) (by omega) (fun q2 n2 => ?_)
  have e_g_q2 : g ≠ q2 := ne_N (pu_self _ _ _) n2
  have e_q1_q2 : q1 ≠ q2 := ne_N ((pu_ne _ _ (Ne.symm e_g_q1)).trans (pu_self _ _ _)) n2
  refine J_dup (pc1 := 25) rfl dX2_init_24 rfl ?_
  refine J_callIN_N (pc1 := 28) (As := []) (good_C lc_X6_init) yv_X6_init ln_X6 (host := "BorrowedHours") (List.mem_of_getElem? (i := 1) rfl) li_X6_init (c_X6_init (pu_self _ _ _)) dX2_init_25 rfl rfl rfl (by omega) (by decide) (by omega) (by omega) (Nat.le_of_ble_eq_true rfl) ?_
  refine J_putF (pc1 := 31) (ty := (.object "BorrowedHours$Side")) (j := 9) (fs1 := [.int (iI 2), .int (iI 0), .int (iI 0), .int (iI 0), .int (iI 0), .int (iI 0), .int (iI 0), .int (iI 0), .ref q1, .ref q2]) inUX2 (ci := 2) rfl (by decide) tyX2 tyX2_ok nmX2 rfl rfl rfl (by decide +kernel) lf_X2_22 dX2_init_28 rfl ((pu_ne _ _ e_g_q2).trans ((pu_ne _ _ e_g_q2).trans (pu_self _ _ _))) rfl (by rfl) (Nat.le_of_ble_eq_true rfl) rfl ?_
  exact J_vret rfl dX2_init_31 (by omega) (by omega) (⟨rfl, q1, q2, ⟨(pu_self _ _ _).trans (gmO_c rfl rfl rfl rfl rfl rfl rfl rfl), ((pu_ne _ _ (Ne.symm e_g_q1)).trans ((pu_ne _ _ e_q1_q2).trans ((pu_ne _ _ e_q1_q2).trans ((pu_ne _ _ (Ne.symm e_g_q1)).trans (pu_self _ _ _))))), ((pu_ne _ _ (Ne.symm e_g_q2)).trans (pu_self _ _ _)), e_q1_q2⟩, pu_none2 n1, pu_none2 (pu_none2 (pu_none2 (pu_none2 n2))), fun x h1 h2 => ((pu_ne _ _ h2).trans ((pu_ne _ _ (fun z9 => h1 (by rw [z9]; exact pu_none2 (pu_none2 (pu_none2 (pu_none2 n2)))))).trans ((pu_ne _ _ (fun z9 => h1 (by rw [z9]; exact pu_none2 (pu_none2 (pu_none2 (pu_none2 n2)))))).trans ((pu_ne _ _ h2).trans ((pu_ne _ _ (fun z9 => h1 (by rw [z9]; exact pu_none2 n1))).trans ((pu_ne _ _ (fun z9 => h1 (by rw [z9]; exact pu_none2 n1))).trans (pu_ne _ _ h2)))))))⟩)
/-- a round: who takes it, for what, and the row behind it -/
def prF (f : Int → Int) (b a : Int) : Int := if tkF f b a = f 5 then b else a
def hdF (f : Int → Int) (b a : Int) : Int := f 4 + (if tkF f b a = 0 then 1 else -1)
def wnF (f : Int → Int) (b a : Int) : Int := if winE (f 0) (hdF f b a) = -1006 then 0 else 1
def plF (f : Int → Int) (b a : Int) : Int → Int := fun j => if j = 4 then hdF f b a else if j = 5 then 1 - f 5 else if j = 6 then f 6 + 1 else if j = 17 then f 17 + (prF f b a - gaF f (prF f b a)) else if j = 7 + tkF f b a then f j - prF f b a else if j = 8 - tkF f b a then f j + gaF f (prF f b a) else if j = 11 + tkF f b a then f j + prF f b a else if j = 13 + tkF f b a then f j + 1 else if j = 15 + tkF f b a then f j + wnF f b a else if j = 18 then f 18 + wnF f b a else f j
theorem tkF_b {f : Int → Int} (ok : okF f) (b a : Int) : tkF f b a = 0 ∨ tkF f b a = 1 := by
  obtain ⟨-, -, -, -, -, o5, -⟩ := ok
  unfold tkF
  split <;> omega
theorem plF_at0 {f : Int → Int} {b a : Int} (ht : tkF f b a = 0) : plF f b a 0 = f 0 ∧ plF f b a 1 = f 1 ∧ plF f b a 2 = f 2 ∧ plF f b a 3 = f 3 ∧ plF f b a 4 = f 4 + 1 ∧ plF f b a 5 = 1 - f 5 ∧ plF f b a 6 = f 6 + 1 ∧ plF f b a 7 = f 7 - prF f b a ∧ plF f b a 8 = f 8 + gaF f (prF f b a) ∧ plF f b a 9 = f 9 ∧ plF f b a 10 = f 10 ∧ plF f b a 11 = f 11 + prF f b a ∧ plF f b a 12 = f 12 ∧ plF f b a 13 = f 13 + 1 ∧ plF f b a 14 = f 14 ∧ plF f b a 15 = f 15 + (if winE (f 0) (f 4 + 1) = -1006 then 0 else 1) ∧ plF f b a 16 = f 16 ∧ plF f b a 17 = f 17 + (prF f b a - gaF f (prF f b a)) ∧ plF f b a 18 = f 18 + (if winE (f 0) (f 4 + 1) = -1006 then 0 else 1) := by
  have hh : hdF f b a = f 4 + 1 := by unfold hdF; rw [ht]; rfl
  refine ⟨?_, ?_, ?_, ?_, ?_, ?_, ?_, ?_, ?_, ?_, ?_, ?_, ?_, ?_, ?_, ?_, ?_, ?_, ?_⟩
  all_goals (unfold plF; rw [ht]; first | rfl | exact hh | (unfold wnF; rw [hh]; rfl))
theorem plF_at1 {f : Int → Int} {b a : Int} (ht : tkF f b a = 1) : plF f b a 0 = f 0 ∧ plF f b a 1 = f 1 ∧ plF f b a 2 = f 2 ∧ plF f b a 3 = f 3 ∧ plF f b a 4 = f 4 + -1 ∧ plF f b a 5 = 1 - f 5 ∧ plF f b a 6 = f 6 + 1 ∧ plF f b a 7 = f 7 + gaF f (prF f b a) ∧ plF f b a 8 = f 8 - prF f b a ∧ plF f b a 9 = f 9 ∧ plF f b a 10 = f 10 ∧ plF f b a 11 = f 11 ∧ plF f b a 12 = f 12 + prF f b a ∧ plF f b a 13 = f 13 ∧ plF f b a 14 = f 14 + 1 ∧ plF f b a 15 = f 15 ∧ plF f b a 16 = f 16 + (if winE (f 0) (f 4 + -1) = -1006 then 0 else 1) ∧ plF f b a 17 = f 17 + (prF f b a - gaF f (prF f b a)) ∧ plF f b a 18 = f 18 + (if winE (f 0) (f 4 + -1) = -1006 then 0 else 1) := by
  have hh : hdF f b a = f 4 + -1 := by unfold hdF; rw [ht]; rfl
  refine ⟨?_, ?_, ?_, ?_, ?_, ?_, ?_, ?_, ?_, ?_, ?_, ?_, ?_, ?_, ?_, ?_, ?_, ?_, ?_⟩
  all_goals (unfold plF; rw [ht]; first | rfl | exact hh | (unfold wnF; rw [hh]; rfl))
set_option maxHeartbeats 1000000 in
set_option maxRecDepth 20000 in
theorem c_X2_playRound0 {S : pS} {g z o : Nat} {f : Int → Int} (hg : IsG S g z o f) (ok : okF f) {b a : Int} (hb : 0 ≤ b ∧ b ≤ 16) (ha : 0 ≤ a ∧ a ≤ 16) (ht : tkF f b a = 0) : Ct yX2_playRound cX2_playRound 7 (Option.some FieldType.int) 2 0 0 [.ref g, .int (iI b), .int (iI a)] S (kIS 0 (UG S g z o (plF f b a))) := by
  have ct := c_X2_takerOf hg ok (b := b) (a := a) (by omega) (by omega)
  rw [ht] at ct
  obtain ⟨o0, o1, o2, o3, o4, o5, o7, o9, o10, o12, o13, -⟩ := ok
  obtain ⟨p0, p1, p2, p3, p4, p5, p6, p7, p8, p9, p10, p11, p12, p13, p14, p15, p16, p17, p18⟩ := plF_at0 ht
  refine Ct.ofJ (by decide +kernel) (Nat.le_of_ble_eq_true rfl) ?_
  refine J_L (L1 := [some (.ref g), some (.int (iI b)), some (.int (iI a)), none, none, none, none]) rfl ?_
  refine J_aload_n (pc1 := 1) rfl (i := 0) rfl dX2_playRound_0 rfl ?_
  refine J_iload_n (pc1 := 2) rfl (i := 1) rfl dX2_playRound_1 rfl ?_
  refine J_iload_n (pc1 := 3) rfl (i := 2) rfl dX2_playRound_2 rfl ?_
  refine J_callVI (pc1 := 6) (As := [.int (iI b), .int (iI a)]) gv_X2_72 yv_X2_takerOf rfl (ct) dX2_playRound_3 rfl hg.1 rfl rfl (by omega) (by decide) (Nat.zero_le _) (Nat.zero_le _) (Nat.le_of_ble_eq_true rfl) ?_
  refine J_istore_n (pc1 := 7) (L1 := [some (.ref g), some (.int (iI b)), some (.int (iI a)), some (.int (iI 0)), none, none, none]) rfl (i := 3) dX2_playRound_6 rfl (by decide) rfl rfl ?_
  refine J_iload_n (pc1 := 8) rfl (i := 3) rfl dX2_playRound_7 rfl ?_
  refine J_aload_n (pc1 := 9) rfl (i := 0) rfl dX2_playRound_8 rfl ?_
  refine J_get (pc1 := 12) (j := 5) inUX2 (ci := 2) rfl (by decide) lf_X2_37 dX2_playRound_9 rfl hg.1 rfl ?_
  refine J_icmp_ne (pc1 := 15) (tgt := 19) (by decide) (by decide) (by omega) (by omega) dX2_playRound_12 rfl rfl (fun h1 => ?_) (fun h1 => ?_)
  · refine J_iload_n (pc1 := 20) rfl (i := 2) rfl dX2_playRound_19 rfl ?_
    refine J_istore (pc1 := 22) (L1 := [some (.ref g), some (.int (iI b)), some (.int (iI a)), some (.int (iI 0)), some (.int (iI a)), none, none]) dX2_playRound_20 rfl (by decide) rfl rfl ?_
    refine J_aload_n (pc1 := 23) rfl (i := 0) rfl dX2_playRound_22 rfl ?_
    refine J_iload_n (pc1 := 24) rfl (i := 3) rfl dX2_playRound_23 rfl ?_
    refine J_callVF (pc1 := 27) (As := [.int (iI 0)]) gv_X2_57 yv_X2_sideOf rfl (c_X2_sideOf0 hg.1) dX2_playRound_24 rfl hg.1 rfl rfl (by omega) (by decide) (Nat.zero_le _) (Nat.zero_le _) (Nat.le_of_ble_eq_true rfl) ?_
    refine J_astore (pc1 := 29) (L1 := [some (.ref g), some (.int (iI b)), some (.int (iI a)), some (.int (iI 0)), some (.int (iI a)), some (.ref z), none]) dX2_playRound_27 rfl (by decide) rfl rfl ?_
    refine J_aload (pc1 := 31) rfl dX2_playRound_29 rfl ?_
    refine J_dup (pc1 := 32) rfl dX2_playRound_31 rfl ?_
    refine J_get (pc1 := 35) (j := 1) inUX6 (ci := 6) rfl (by decide) lf_X2_61 dX2_playRound_32 rfl hg.2.1 rfl ?_
    refine J_iload (pc1 := 37) rfl dX2_playRound_35 rfl ?_
    refine J_isub (pc1 := 38) dX2_playRound_37 rfl ?_
    refine J_put (pc1 := 41) (ty := .int) (j := 1) (fs1 := [.int (iI (f 9)), .int (iI ((f 7) - a)), .int (iI (f 11)), .int (iI (f 13)), .int (iI (f 15))]) inUX6 (ci := 6) rfl (by decide) tyX6 tyX6_ok nmX6 rfl (by decide +kernel) lf_X2_61 dX2_playRound_38 rfl hg.2.1 rfl (by rfl) (Nat.le_of_ble_eq_true rfl) rfl ?_
    refine J_aload (pc1 := 43) rfl dX2_playRound_41 rfl ?_
    refine J_dup (pc1 := 44) rfl dX2_playRound_43 rfl ?_
    refine J_get (pc1 := 47) (j := 2) inUX6 (ci := 6) rfl (by decide) lf_X2_76 dX2_playRound_44 rfl (pu_self _ _ _) rfl ?_
    refine J_iload (pc1 := 49) rfl dX2_playRound_47 rfl ?_
    refine J_iadd (pc1 := 50) dX2_playRound_49 rfl ?_
    refine J_put (pc1 := 53) (ty := .int) (j := 2) (fs1 := [.int (iI (f 9)), .int (iI ((f 7) - a)), .int (iI ((f 11) + a)), .int (iI (f 13)), .int (iI (f 15))]) inUX6 (ci := 6) rfl (by decide) tyX6 tyX6_ok nmX6 rfl (by decide +kernel) lf_X2_76 dX2_playRound_50 rfl (pu_self _ _ _) rfl (by rfl) (Nat.le_of_ble_eq_true rfl) rfl ?_
    rw [pu_pu]
    refine J_aload (pc1 := 55) rfl dX2_playRound_53 rfl ?_
    refine J_dup (pc1 := 56) rfl dX2_playRound_55 rfl ?_
    refine J_get (pc1 := 59) (j := 3) inUX6 (ci := 6) rfl (by decide) lf_X2_79 dX2_playRound_56 rfl (pu_self _ _ _) rfl ?_
    refine J_iconst (pc1 := 60) dX2_playRound_59 rfl ?_
    refine J_iadd (pc1 := 61) dX2_playRound_60 rfl ?_
    refine J_put (pc1 := 64) (ty := .int) (j := 3) (fs1 := [.int (iI (f 9)), .int (iI ((f 7) - a)), .int (iI ((f 11) + a)), .int (iI ((f 13) + 1)), .int (iI (f 15))]) inUX6 (ci := 6) rfl (by decide) tyX6 tyX6_ok nmX6 rfl (by decide +kernel) lf_X2_79 dX2_playRound_61 rfl (pu_self _ _ _) rfl (by rfl) (Nat.le_of_ble_eq_true rfl) rfl ?_
    rw [pu_pu]
    refine J_aload_n (pc1 := 65) rfl (i := 0) rfl dX2_playRound_64 rfl ?_
    refine J_iload (pc1 := 67) rfl dX2_playRound_65 rfl ?_
    refine J_callVI (pc1 := 70) (As := [.int (iI a)]) gv_X2_82 yv_X2_gainOf rfl (c_X2_gainOf (p := f 2) ((pu_ne _ _ (ne_ci hg.1 hg.2.1 (by decide))).trans hg.1) (by omega)) dX2_playRound_67 rfl ((pu_ne _ _ (ne_ci hg.1 hg.2.1 (by decide))).trans hg.1) rfl rfl (by omega) (by decide) (Nat.zero_le _) (Nat.zero_le _) (Nat.le_of_ble_eq_true rfl) ?_
    refine J_istore (pc1 := 72) (L1 := [some (.ref g), some (.int (iI b)), some (.int (iI a)), some (.int (iI 0)), some (.int (iI a)), some (.ref z), some (.int (iI (gaF f a)))]) dX2_playRound_70 rfl (by decide) rfl rfl ?_
    refine J_aload_n (pc1 := 73) rfl (i := 0) rfl dX2_playRound_72 rfl ?_
    refine J_iconst (pc1 := 74) dX2_playRound_73 rfl ?_
    refine J_iload_n (pc1 := 75) rfl (i := 3) rfl dX2_playRound_74 rfl ?_
    refine J_isubE (pc1 := 76) (z := 1) (by decide) dX2_playRound_75 rfl ?_
    refine J_callVF (pc1 := 79) (As := [.int (iI 1)]) gv_X2_57 yv_X2_sideOf rfl (c_X2_sideOf1 ((pu_ne _ _ (ne_ci hg.1 hg.2.1 (by decide))).trans hg.1)) dX2_playRound_76 rfl ((pu_ne _ _ (ne_ci hg.1 hg.2.1 (by decide))).trans hg.1) rfl rfl (by omega) (by decide) (Nat.zero_le _) (Nat.zero_le _) (Nat.le_of_ble_eq_true rfl) ?_
    refine J_dup (pc1 := 80) rfl dX2_playRound_79 rfl ?_
    refine J_get (pc1 := 83) (j := 1) inUX6 (ci := 6) rfl (by decide) lf_X2_61 dX2_playRound_80 rfl ((pu_ne _ _ (Ne.symm hg.2.2.2)).trans hg.2.2.1) rfl ?_
    refine J_iload (pc1 := 85) rfl dX2_playRound_83 rfl ?_
    refine J_iadd (pc1 := 86) dX2_playRound_85 rfl ?_
    refine J_put (pc1 := 89) (ty := .int) (j := 1) (fs1 := [.int (iI (f 10)), .int (iI ((f 8) + (gaF f a))), .int (iI (f 12)), .int (iI (f 14)), .int (iI (f 16))]) inUX6 (ci := 6) rfl (by decide) tyX6 tyX6_ok nmX6 rfl (by decide +kernel) lf_X2_61 dX2_playRound_86 rfl ((pu_ne _ _ (Ne.symm hg.2.2.2)).trans hg.2.2.1) rfl (by rfl) (Nat.le_of_ble_eq_true rfl) rfl ?_
    refine J_aload_n (pc1 := 90) rfl (i := 0) rfl dX2_playRound_89 rfl ?_
    refine J_dup (pc1 := 91) rfl dX2_playRound_90 rfl ?_
    refine J_get (pc1 := 94) (j := 7) inUX2 (ci := 2) rfl (by decide) lf_X2_43 dX2_playRound_91 rfl ((pu_ne _ _ (ne_ci hg.1 hg.2.2.1 (by decide))).trans ((pu_ne _ _ (ne_ci hg.1 hg.2.1 (by decide))).trans hg.1)) rfl ?_
    refine J_iload (pc1 := 96) rfl dX2_playRound_94 rfl ?_
    refine J_iload (pc1 := 98) rfl dX2_playRound_96 rfl ?_
    refine J_isub (pc1 := 99) dX2_playRound_98 rfl ?_
    refine J_iadd (pc1 := 100) dX2_playRound_99 rfl ?_
    refine J_put (pc1 := 103) (ty := .int) (j := 7) (fs1 := [.int (iI (f 0)), .int (iI (f 1)), .int (iI (f 2)), .int (iI (f 3)), .int (iI (f 4)), .int (iI (f 5)), .int (iI (f 6)), .int (iI ((f 17) + (a - (gaF f a)))), .ref z, .ref o]) inUX2 (ci := 2) rfl (by decide) tyX2 tyX2_ok nmX2 rfl (by decide +kernel) lf_X2_43 dX2_playRound_100 rfl ((pu_ne _ _ (ne_ci hg.1 hg.2.2.1 (by decide))).trans ((pu_ne _ _ (ne_ci hg.1 hg.2.1 (by decide))).trans hg.1)) rfl (by rfl) (Nat.le_of_ble_eq_true rfl) rfl ?_
    refine J_aload_n (pc1 := 104) rfl (i := 0) rfl dX2_playRound_103 rfl ?_
    refine J_dup (pc1 := 105) rfl dX2_playRound_104 rfl ?_
    refine J_get (pc1 := 108) (j := 4) inUX2 (ci := 2) rfl (by decide) lf_X2_34 dX2_playRound_105 rfl (pu_self _ _ _) rfl ?_
    refine J_iload_n (pc1 := 109) rfl (i := 3) rfl dX2_playRound_108 rfl ?_
    refine J_if_ne (pc1 := 112) (tgt := 116) (by decide) (by decide) dX2_playRound_109 rfl rfl (fun h2 => ?_) (fun h2 => ?_)
    · exact absurd h2 (by decide)
    · refine J_iconst (pc1 := 113) dX2_playRound_112 rfl ?_
      refine J_goto (tgt := 117) dX2_playRound_113 rfl ?_
      refine J_iadd (pc1 := 118) dX2_playRound_117 rfl ?_
      refine J_put (pc1 := 121) (ty := .int) (j := 4) (fs1 := [.int (iI (f 0)), .int (iI (f 1)), .int (iI (f 2)), .int (iI (f 3)), .int (iI ((f 4) + 1)), .int (iI (f 5)), .int (iI (f 6)), .int (iI ((f 17) + (a - (gaF f a)))), .ref z, .ref o]) inUX2 (ci := 2) rfl (by decide) tyX2 tyX2_ok nmX2 rfl (by decide +kernel) lf_X2_34 dX2_playRound_118 rfl (pu_self _ _ _) rfl (by rfl) (Nat.le_of_ble_eq_true rfl) rfl ?_
      rw [pu_pu]
      refine J_aload_n (pc1 := 122) rfl (i := 0) rfl dX2_playRound_121 rfl ?_
      refine J_iconst (pc1 := 123) dX2_playRound_122 rfl ?_
      refine J_aload_n (pc1 := 124) rfl (i := 0) rfl dX2_playRound_123 rfl ?_
      refine J_get (pc1 := 127) (j := 5) inUX2 (ci := 2) rfl (by decide) lf_X2_37 dX2_playRound_124 rfl (pu_self _ _ _) rfl ?_
      refine J_isub (pc1 := 128) dX2_playRound_127 rfl ?_
      refine J_put (pc1 := 131) (ty := .int) (j := 5) (fs1 := [.int (iI (f 0)), .int (iI (f 1)), .int (iI (f 2)), .int (iI (f 3)), .int (iI ((f 4) + 1)), .int (iI (1 - (f 5))), .int (iI (f 6)), .int (iI ((f 17) + (a - (gaF f a)))), .ref z, .ref o]) inUX2 (ci := 2) rfl (by decide) tyX2 tyX2_ok nmX2 rfl (by decide +kernel) lf_X2_37 dX2_playRound_128 rfl (pu_self _ _ _) rfl (by rfl) (Nat.le_of_ble_eq_true rfl) rfl ?_
      rw [pu_pu]
      refine J_aload_n (pc1 := 132) rfl (i := 0) rfl dX2_playRound_131 rfl ?_
      refine J_dup (pc1 := 133) rfl dX2_playRound_132 rfl ?_
      refine J_get (pc1 := 136) (j := 6) inUX2 (ci := 2) rfl (by decide) lf_X2_40 dX2_playRound_133 rfl (pu_self _ _ _) rfl ?_
      refine J_iconst (pc1 := 137) dX2_playRound_136 rfl ?_
      refine J_iadd (pc1 := 138) dX2_playRound_137 rfl ?_
      refine J_put (pc1 := 141) (ty := .int) (j := 6) (fs1 := [.int (iI (f 0)), .int (iI (f 1)), .int (iI (f 2)), .int (iI (f 3)), .int (iI ((f 4) + 1)), .int (iI (1 - (f 5))), .int (iI ((f 6) + 1)), .int (iI ((f 17) + (a - (gaF f a)))), .ref z, .ref o]) inUX2 (ci := 2) rfl (by decide) tyX2 tyX2_ok nmX2 rfl (by decide +kernel) lf_X2_40 dX2_playRound_138 rfl (pu_self _ _ _) rfl (by rfl) (Nat.le_of_ble_eq_true rfl) rfl ?_
      rw [pu_pu]
      refine J_aload_n (pc1 := 142) rfl (i := 0) rfl dX2_playRound_141 rfl ?_
      refine J_callVI (pc1 := 145) (As := []) gv_X2_64 yv_X2_isOver rfl (c_X2_isOver (e := f 0) (h := (f 4) + 1) (pu_self _ _ _) (by omega) (by omega)) dX2_playRound_142 rfl (pu_self _ _ _) rfl rfl (by omega) (by decide) (Nat.zero_le _) (Nat.zero_le _) (Nat.le_of_ble_eq_true rfl) ?_
      refine J_if_eq (pc1 := 148) (tgt := 159) (bZ_lo _) (bZ_hi _) dX2_playRound_145 rfl rfl (fun h3 => ?_) (fun h3 => ?_)
      · refine J_iload_n (pc1 := 160) rfl (i := 3) rfl dX2_playRound_159 rfl ?_
        exact J_iret rfl rfl dX2_playRound_160 (Nat.le_refl _) (Nat.le_refl _) (⟨rfl, ⟨⟨((pu_self _ _ _).trans (gmO_c (by exact p0.symm) (by exact p1.symm) (by exact p2.symm) (by exact p3.symm) (by exact p4.symm) (by exact p5.symm) (by exact p6.symm) (by rw [p17]; unfold prF; rw [ht]; first | rw [if_pos (by omega)] | rw [if_neg (by omega)]))), (((pu_ne _ _ (ne_ci hg.2.1 hg.1 (by decide))).trans ((pu_ne _ _ hg.2.2.2).trans (pu_self _ _ _))).trans (sdO_c (by exact p9.symm) (by rw [p7]; unfold prF; rw [ht]; first | rw [if_pos (by omega)] | rw [if_neg (by omega)]) (by rw [p11]; unfold prF; rw [ht]; first | rw [if_pos (by omega)] | rw [if_neg (by omega)]) (by exact p13.symm) (by rw [p15]; (first | rw [if_pos (Decidable.not_not.mp (bZ_0 (by assumption)))] | rw [if_neg (bZ_1 (by assumption))]); try omega))), (((pu_ne _ _ (ne_ci hg.2.2.1 hg.1 (by decide))).trans (pu_self _ _ _)).trans (sdO_c (by exact p10.symm) (by rw [p8]; unfold prF; rw [ht]; first | rw [if_pos (by omega)] | rw [if_neg (by omega)]) (by exact p12.symm) (by exact p14.symm) (by exact p16.symm))), hg.2.2.2⟩, fun x h1 h2 h3 => ((pu_ne _ _ h1).trans ((pu_ne _ _ h3).trans (pu_ne _ _ h2)))⟩⟩)
      · refine J_aload (pc1 := 150) rfl dX2_playRound_148 rfl ?_
        refine J_dup (pc1 := 151) rfl dX2_playRound_150 rfl ?_
        refine J_get (pc1 := 154) (j := 4) inUX6 (ci := 6) rfl (by decide) lf_X2_85 dX2_playRound_151 rfl ((pu_ne _ _ (ne_ci hg.2.1 hg.1 (by decide))).trans ((pu_ne _ _ hg.2.2.2).trans (pu_self _ _ _))) rfl ?_
        refine J_iconst (pc1 := 155) dX2_playRound_154 rfl ?_
        refine J_iadd (pc1 := 156) dX2_playRound_155 rfl ?_
        refine J_put (pc1 := 159) (ty := .int) (j := 4) (fs1 := [.int (iI (f 9)), .int (iI ((f 7) - a)), .int (iI ((f 11) + a)), .int (iI ((f 13) + 1)), .int (iI ((f 15) + 1))]) inUX6 (ci := 6) rfl (by decide) tyX6 tyX6_ok nmX6 rfl (by decide +kernel) lf_X2_85 dX2_playRound_156 rfl ((pu_ne _ _ (ne_ci hg.2.1 hg.1 (by decide))).trans ((pu_ne _ _ hg.2.2.2).trans (pu_self _ _ _))) rfl (by rfl) (Nat.le_of_ble_eq_true rfl) rfl ?_
        refine J_iload_n (pc1 := 160) rfl (i := 3) rfl dX2_playRound_159 rfl ?_
        exact J_iret rfl rfl dX2_playRound_160 (Nat.le_refl _) (Nat.le_refl _) (⟨rfl, ⟨⟨(((pu_ne _ _ (ne_ci hg.1 hg.2.1 (by decide))).trans (pu_self _ _ _)).trans (gmO_c (by exact p0.symm) (by exact p1.symm) (by exact p2.symm) (by exact p3.symm) (by exact p4.symm) (by exact p5.symm) (by exact p6.symm) (by rw [p17]; unfold prF; rw [ht]; first | rw [if_pos (by omega)] | rw [if_neg (by omega)]))), ((pu_self _ _ _).trans (sdO_c (by exact p9.symm) (by rw [p7]; unfold prF; rw [ht]; first | rw [if_pos (by omega)] | rw [if_neg (by omega)]) (by rw [p11]; unfold prF; rw [ht]; first | rw [if_pos (by omega)] | rw [if_neg (by omega)]) (by exact p13.symm) (by rw [p15]; (first | rw [if_pos (Decidable.not_not.mp (bZ_0 (by assumption)))] | rw [if_neg (bZ_1 (by assumption))]); try omega))), (((pu_ne _ _ (Ne.symm hg.2.2.2)).trans ((pu_ne _ _ (ne_ci hg.2.2.1 hg.1 (by decide))).trans (pu_self _ _ _))).trans (sdO_c (by exact p10.symm) (by rw [p8]; unfold prF; rw [ht]; first | rw [if_pos (by omega)] | rw [if_neg (by omega)]) (by exact p12.symm) (by exact p14.symm) (by exact p16.symm))), hg.2.2.2⟩, fun x h1 h2 h3 => ((pu_ne _ _ h2).trans ((pu_ne _ _ h1).trans ((pu_ne _ _ h3).trans (pu_ne _ _ h2))))⟩⟩)
  · refine J_iload_n (pc1 := 16) rfl (i := 1) rfl dX2_playRound_15 rfl ?_
    refine J_goto (tgt := 20) dX2_playRound_16 rfl ?_
    refine J_istore (pc1 := 22) (L1 := [some (.ref g), some (.int (iI b)), some (.int (iI a)), some (.int (iI 0)), some (.int (iI b)), none, none]) dX2_playRound_20 rfl (by decide) rfl rfl ?_
    refine J_aload_n (pc1 := 23) rfl (i := 0) rfl dX2_playRound_22 rfl ?_
    refine J_iload_n (pc1 := 24) rfl (i := 3) rfl dX2_playRound_23 rfl ?_
    refine J_callVF (pc1 := 27) (As := [.int (iI 0)]) gv_X2_57 yv_X2_sideOf rfl (c_X2_sideOf0 hg.1) dX2_playRound_24 rfl hg.1 rfl rfl (by omega) (by decide) (Nat.zero_le _) (Nat.zero_le _) (Nat.le_of_ble_eq_true rfl) ?_
    refine J_astore (pc1 := 29) (L1 := [some (.ref g), some (.int (iI b)), some (.int (iI a)), some (.int (iI 0)), some (.int (iI b)), some (.ref z), none]) dX2_playRound_27 rfl (by decide) rfl rfl ?_
    refine J_aload (pc1 := 31) rfl dX2_playRound_29 rfl ?_
    refine J_dup (pc1 := 32) rfl dX2_playRound_31 rfl ?_
    refine J_get (pc1 := 35) (j := 1) inUX6 (ci := 6) rfl (by decide) lf_X2_61 dX2_playRound_32 rfl hg.2.1 rfl ?_
    refine J_iload (pc1 := 37) rfl dX2_playRound_35 rfl ?_
    refine J_isub (pc1 := 38) dX2_playRound_37 rfl ?_
    refine J_put (pc1 := 41) (ty := .int) (j := 1) (fs1 := [.int (iI (f 9)), .int (iI ((f 7) - b)), .int (iI (f 11)), .int (iI (f 13)), .int (iI (f 15))]) inUX6 (ci := 6) rfl (by decide) tyX6 tyX6_ok nmX6 rfl (by decide +kernel) lf_X2_61 dX2_playRound_38 rfl hg.2.1 rfl (by rfl) (Nat.le_of_ble_eq_true rfl) rfl ?_
    refine J_aload (pc1 := 43) rfl dX2_playRound_41 rfl ?_
    refine J_dup (pc1 := 44) rfl dX2_playRound_43 rfl ?_
    refine J_get (pc1 := 47) (j := 2) inUX6 (ci := 6) rfl (by decide) lf_X2_76 dX2_playRound_44 rfl (pu_self _ _ _) rfl ?_
    refine J_iload (pc1 := 49) rfl dX2_playRound_47 rfl ?_
    refine J_iadd (pc1 := 50) dX2_playRound_49 rfl ?_
    refine J_put (pc1 := 53) (ty := .int) (j := 2) (fs1 := [.int (iI (f 9)), .int (iI ((f 7) - b)), .int (iI ((f 11) + b)), .int (iI (f 13)), .int (iI (f 15))]) inUX6 (ci := 6) rfl (by decide) tyX6 tyX6_ok nmX6 rfl (by decide +kernel) lf_X2_76 dX2_playRound_50 rfl (pu_self _ _ _) rfl (by rfl) (Nat.le_of_ble_eq_true rfl) rfl ?_
    rw [pu_pu]
    refine J_aload (pc1 := 55) rfl dX2_playRound_53 rfl ?_
    refine J_dup (pc1 := 56) rfl dX2_playRound_55 rfl ?_
    refine J_get (pc1 := 59) (j := 3) inUX6 (ci := 6) rfl (by decide) lf_X2_79 dX2_playRound_56 rfl (pu_self _ _ _) rfl ?_
    refine J_iconst (pc1 := 60) dX2_playRound_59 rfl ?_
    refine J_iadd (pc1 := 61) dX2_playRound_60 rfl ?_
    refine J_put (pc1 := 64) (ty := .int) (j := 3) (fs1 := [.int (iI (f 9)), .int (iI ((f 7) - b)), .int (iI ((f 11) + b)), .int (iI ((f 13) + 1)), .int (iI (f 15))]) inUX6 (ci := 6) rfl (by decide) tyX6 tyX6_ok nmX6 rfl (by decide +kernel) lf_X2_79 dX2_playRound_61 rfl (pu_self _ _ _) rfl (by rfl) (Nat.le_of_ble_eq_true rfl) rfl ?_
    rw [pu_pu]
    refine J_aload_n (pc1 := 65) rfl (i := 0) rfl dX2_playRound_64 rfl ?_
    refine J_iload (pc1 := 67) rfl dX2_playRound_65 rfl ?_
    refine J_callVI (pc1 := 70) (As := [.int (iI b)]) gv_X2_82 yv_X2_gainOf rfl (c_X2_gainOf (p := f 2) ((pu_ne _ _ (ne_ci hg.1 hg.2.1 (by decide))).trans hg.1) (by omega)) dX2_playRound_67 rfl ((pu_ne _ _ (ne_ci hg.1 hg.2.1 (by decide))).trans hg.1) rfl rfl (by omega) (by decide) (Nat.zero_le _) (Nat.zero_le _) (Nat.le_of_ble_eq_true rfl) ?_
    refine J_istore (pc1 := 72) (L1 := [some (.ref g), some (.int (iI b)), some (.int (iI a)), some (.int (iI 0)), some (.int (iI b)), some (.ref z), some (.int (iI (gaF f b)))]) dX2_playRound_70 rfl (by decide) rfl rfl ?_
    refine J_aload_n (pc1 := 73) rfl (i := 0) rfl dX2_playRound_72 rfl ?_
    refine J_iconst (pc1 := 74) dX2_playRound_73 rfl ?_
    refine J_iload_n (pc1 := 75) rfl (i := 3) rfl dX2_playRound_74 rfl ?_
    refine J_isubE (pc1 := 76) (z := 1) (by decide) dX2_playRound_75 rfl ?_
    refine J_callVF (pc1 := 79) (As := [.int (iI 1)]) gv_X2_57 yv_X2_sideOf rfl (c_X2_sideOf1 ((pu_ne _ _ (ne_ci hg.1 hg.2.1 (by decide))).trans hg.1)) dX2_playRound_76 rfl ((pu_ne _ _ (ne_ci hg.1 hg.2.1 (by decide))).trans hg.1) rfl rfl (by omega) (by decide) (Nat.zero_le _) (Nat.zero_le _) (Nat.le_of_ble_eq_true rfl) ?_
    refine J_dup (pc1 := 80) rfl dX2_playRound_79 rfl ?_
    refine J_get (pc1 := 83) (j := 1) inUX6 (ci := 6) rfl (by decide) lf_X2_61 dX2_playRound_80 rfl ((pu_ne _ _ (Ne.symm hg.2.2.2)).trans hg.2.2.1) rfl ?_
    refine J_iload (pc1 := 85) rfl dX2_playRound_83 rfl ?_
    refine J_iadd (pc1 := 86) dX2_playRound_85 rfl ?_
    refine J_put (pc1 := 89) (ty := .int) (j := 1) (fs1 := [.int (iI (f 10)), .int (iI ((f 8) + (gaF f b))), .int (iI (f 12)), .int (iI (f 14)), .int (iI (f 16))]) inUX6 (ci := 6) rfl (by decide) tyX6 tyX6_ok nmX6 rfl (by decide +kernel) lf_X2_61 dX2_playRound_86 rfl ((pu_ne _ _ (Ne.symm hg.2.2.2)).trans hg.2.2.1) rfl (by rfl) (Nat.le_of_ble_eq_true rfl) rfl ?_
    refine J_aload_n (pc1 := 90) rfl (i := 0) rfl dX2_playRound_89 rfl ?_
    refine J_dup (pc1 := 91) rfl dX2_playRound_90 rfl ?_
    refine J_get (pc1 := 94) (j := 7) inUX2 (ci := 2) rfl (by decide) lf_X2_43 dX2_playRound_91 rfl ((pu_ne _ _ (ne_ci hg.1 hg.2.2.1 (by decide))).trans ((pu_ne _ _ (ne_ci hg.1 hg.2.1 (by decide))).trans hg.1)) rfl ?_
    refine J_iload (pc1 := 96) rfl dX2_playRound_94 rfl ?_
    refine J_iload (pc1 := 98) rfl dX2_playRound_96 rfl ?_
    refine J_isub (pc1 := 99) dX2_playRound_98 rfl ?_
    refine J_iadd (pc1 := 100) dX2_playRound_99 rfl ?_
    refine J_put (pc1 := 103) (ty := .int) (j := 7) (fs1 := [.int (iI (f 0)), .int (iI (f 1)), .int (iI (f 2)), .int (iI (f 3)), .int (iI (f 4)), .int (iI (f 5)), .int (iI (f 6)), .int (iI ((f 17) + (b - (gaF f b)))), .ref z, .ref o]) inUX2 (ci := 2) rfl (by decide) tyX2 tyX2_ok nmX2 rfl (by decide +kernel) lf_X2_43 dX2_playRound_100 rfl ((pu_ne _ _ (ne_ci hg.1 hg.2.2.1 (by decide))).trans ((pu_ne _ _ (ne_ci hg.1 hg.2.1 (by decide))).trans hg.1)) rfl (by rfl) (Nat.le_of_ble_eq_true rfl) rfl ?_
    refine J_aload_n (pc1 := 104) rfl (i := 0) rfl dX2_playRound_103 rfl ?_
    refine J_dup (pc1 := 105) rfl dX2_playRound_104 rfl ?_
    refine J_get (pc1 := 108) (j := 4) inUX2 (ci := 2) rfl (by decide) lf_X2_34 dX2_playRound_105 rfl (pu_self _ _ _) rfl ?_
    refine J_iload_n (pc1 := 109) rfl (i := 3) rfl dX2_playRound_108 rfl ?_
    refine J_if_ne (pc1 := 112) (tgt := 116) (by decide) (by decide) dX2_playRound_109 rfl rfl (fun h4 => ?_) (fun h4 => ?_)
    · exact absurd h4 (by decide)
    · refine J_iconst (pc1 := 113) dX2_playRound_112 rfl ?_
      refine J_goto (tgt := 117) dX2_playRound_113 rfl ?_
      refine J_iadd (pc1 := 118) dX2_playRound_117 rfl ?_
      refine J_put (pc1 := 121) (ty := .int) (j := 4) (fs1 := [.int (iI (f 0)), .int (iI (f 1)), .int (iI (f 2)), .int (iI (f 3)), .int (iI ((f 4) + 1)), .int (iI (f 5)), .int (iI (f 6)), .int (iI ((f 17) + (b - (gaF f b)))), .ref z, .ref o]) inUX2 (ci := 2) rfl (by decide) tyX2 tyX2_ok nmX2 rfl (by decide +kernel) lf_X2_34 dX2_playRound_118 rfl (pu_self _ _ _) rfl (by rfl) (Nat.le_of_ble_eq_true rfl) rfl ?_
      rw [pu_pu]
      refine J_aload_n (pc1 := 122) rfl (i := 0) rfl dX2_playRound_121 rfl ?_
      refine J_iconst (pc1 := 123) dX2_playRound_122 rfl ?_
      refine J_aload_n (pc1 := 124) rfl (i := 0) rfl dX2_playRound_123 rfl ?_
      refine J_get (pc1 := 127) (j := 5) inUX2 (ci := 2) rfl (by decide) lf_X2_37 dX2_playRound_124 rfl (pu_self _ _ _) rfl ?_
      refine J_isub (pc1 := 128) dX2_playRound_127 rfl ?_
      refine J_put (pc1 := 131) (ty := .int) (j := 5) (fs1 := [.int (iI (f 0)), .int (iI (f 1)), .int (iI (f 2)), .int (iI (f 3)), .int (iI ((f 4) + 1)), .int (iI (1 - (f 5))), .int (iI (f 6)), .int (iI ((f 17) + (b - (gaF f b)))), .ref z, .ref o]) inUX2 (ci := 2) rfl (by decide) tyX2 tyX2_ok nmX2 rfl (by decide +kernel) lf_X2_37 dX2_playRound_128 rfl (pu_self _ _ _) rfl (by rfl) (Nat.le_of_ble_eq_true rfl) rfl ?_
      rw [pu_pu]
      refine J_aload_n (pc1 := 132) rfl (i := 0) rfl dX2_playRound_131 rfl ?_
      refine J_dup (pc1 := 133) rfl dX2_playRound_132 rfl ?_
      refine J_get (pc1 := 136) (j := 6) inUX2 (ci := 2) rfl (by decide) lf_X2_40 dX2_playRound_133 rfl (pu_self _ _ _) rfl ?_
      refine J_iconst (pc1 := 137) dX2_playRound_136 rfl ?_
      refine J_iadd (pc1 := 138) dX2_playRound_137 rfl ?_
      refine J_put (pc1 := 141) (ty := .int) (j := 6) (fs1 := [.int (iI (f 0)), .int (iI (f 1)), .int (iI (f 2)), .int (iI (f 3)), .int (iI ((f 4) + 1)), .int (iI (1 - (f 5))), .int (iI ((f 6) + 1)), .int (iI ((f 17) + (b - (gaF f b)))), .ref z, .ref o]) inUX2 (ci := 2) rfl (by decide) tyX2 tyX2_ok nmX2 rfl (by decide +kernel) lf_X2_40 dX2_playRound_138 rfl (pu_self _ _ _) rfl (by rfl) (Nat.le_of_ble_eq_true rfl) rfl ?_
      rw [pu_pu]
      refine J_aload_n (pc1 := 142) rfl (i := 0) rfl dX2_playRound_141 rfl ?_
      refine J_callVI (pc1 := 145) (As := []) gv_X2_64 yv_X2_isOver rfl (c_X2_isOver (e := f 0) (h := (f 4) + 1) (pu_self _ _ _) (by omega) (by omega)) dX2_playRound_142 rfl (pu_self _ _ _) rfl rfl (by omega) (by decide) (Nat.zero_le _) (Nat.zero_le _) (Nat.le_of_ble_eq_true rfl) ?_
      refine J_if_eq (pc1 := 148) (tgt := 159) (bZ_lo _) (bZ_hi _) dX2_playRound_145 rfl rfl (fun h5 => ?_) (fun h5 => ?_)
      · refine J_iload_n (pc1 := 160) rfl (i := 3) rfl dX2_playRound_159 rfl ?_
        exact J_iret rfl rfl dX2_playRound_160 (Nat.le_refl _) (Nat.le_refl _) (⟨rfl, ⟨⟨((pu_self _ _ _).trans (gmO_c (by exact p0.symm) (by exact p1.symm) (by exact p2.symm) (by exact p3.symm) (by exact p4.symm) (by exact p5.symm) (by exact p6.symm) (by rw [p17]; unfold prF; rw [ht]; first | rw [if_pos (by omega)] | rw [if_neg (by omega)]))), (((pu_ne _ _ (ne_ci hg.2.1 hg.1 (by decide))).trans ((pu_ne _ _ hg.2.2.2).trans (pu_self _ _ _))).trans (sdO_c (by exact p9.symm) (by rw [p7]; unfold prF; rw [ht]; first | rw [if_pos (by omega)] | rw [if_neg (by omega)]) (by rw [p11]; unfold prF; rw [ht]; first | rw [if_pos (by omega)] | rw [if_neg (by omega)]) (by exact p13.symm) (by rw [p15]; (first | rw [if_pos (Decidable.not_not.mp (bZ_0 (by assumption)))] | rw [if_neg (bZ_1 (by assumption))]); try omega))), (((pu_ne _ _ (ne_ci hg.2.2.1 hg.1 (by decide))).trans (pu_self _ _ _)).trans (sdO_c (by exact p10.symm) (by rw [p8]; unfold prF; rw [ht]; first | rw [if_pos (by omega)] | rw [if_neg (by omega)]) (by exact p12.symm) (by exact p14.symm) (by exact p16.symm))), hg.2.2.2⟩, fun x h1 h2 h3 => ((pu_ne _ _ h1).trans ((pu_ne _ _ h3).trans (pu_ne _ _ h2)))⟩⟩)
      · refine J_aload (pc1 := 150) rfl dX2_playRound_148 rfl ?_
        refine J_dup (pc1 := 151) rfl dX2_playRound_150 rfl ?_
        refine J_get (pc1 := 154) (j := 4) inUX6 (ci := 6) rfl (by decide) lf_X2_85 dX2_playRound_151 rfl ((pu_ne _ _ (ne_ci hg.2.1 hg.1 (by decide))).trans ((pu_ne _ _ hg.2.2.2).trans (pu_self _ _ _))) rfl ?_
        refine J_iconst (pc1 := 155) dX2_playRound_154 rfl ?_
        refine J_iadd (pc1 := 156) dX2_playRound_155 rfl ?_
        refine J_put (pc1 := 159) (ty := .int) (j := 4) (fs1 := [.int (iI (f 9)), .int (iI ((f 7) - b)), .int (iI ((f 11) + b)), .int (iI ((f 13) + 1)), .int (iI ((f 15) + 1))]) inUX6 (ci := 6) rfl (by decide) tyX6 tyX6_ok nmX6 rfl (by decide +kernel) lf_X2_85 dX2_playRound_156 rfl ((pu_ne _ _ (ne_ci hg.2.1 hg.1 (by decide))).trans ((pu_ne _ _ hg.2.2.2).trans (pu_self _ _ _))) rfl (by rfl) (Nat.le_of_ble_eq_true rfl) rfl ?_
        refine J_iload_n (pc1 := 160) rfl (i := 3) rfl dX2_playRound_159 rfl ?_
        exact J_iret rfl rfl dX2_playRound_160 (Nat.le_refl _) (Nat.le_refl _) (⟨rfl, ⟨⟨(((pu_ne _ _ (ne_ci hg.1 hg.2.1 (by decide))).trans (pu_self _ _ _)).trans (gmO_c (by exact p0.symm) (by exact p1.symm) (by exact p2.symm) (by exact p3.symm) (by exact p4.symm) (by exact p5.symm) (by exact p6.symm) (by rw [p17]; unfold prF; rw [ht]; first | rw [if_pos (by omega)] | rw [if_neg (by omega)]))), ((pu_self _ _ _).trans (sdO_c (by exact p9.symm) (by rw [p7]; unfold prF; rw [ht]; first | rw [if_pos (by omega)] | rw [if_neg (by omega)]) (by rw [p11]; unfold prF; rw [ht]; first | rw [if_pos (by omega)] | rw [if_neg (by omega)]) (by exact p13.symm) (by rw [p15]; (first | rw [if_pos (Decidable.not_not.mp (bZ_0 (by assumption)))] | rw [if_neg (bZ_1 (by assumption))]); try omega))), (((pu_ne _ _ (Ne.symm hg.2.2.2)).trans ((pu_ne _ _ (ne_ci hg.2.2.1 hg.1 (by decide))).trans (pu_self _ _ _))).trans (sdO_c (by exact p10.symm) (by rw [p8]; unfold prF; rw [ht]; first | rw [if_pos (by omega)] | rw [if_neg (by omega)]) (by exact p12.symm) (by exact p14.symm) (by exact p16.symm))), hg.2.2.2⟩, fun x h1 h2 h3 => ((pu_ne _ _ h2).trans ((pu_ne _ _ h1).trans ((pu_ne _ _ h3).trans (pu_ne _ _ h2))))⟩⟩)
set_option maxHeartbeats 1000000 in
set_option maxRecDepth 20000 in
theorem c_X2_playRound1 {S : pS} {g z o : Nat} {f : Int → Int} (hg : IsG S g z o f) (ok : okF f) {b a : Int} (hb : 0 ≤ b ∧ b ≤ 16) (ha : 0 ≤ a ∧ a ≤ 16) (ht : tkF f b a = 1) : Ct yX2_playRound cX2_playRound 7 (Option.some FieldType.int) 2 0 0 [.ref g, .int (iI b), .int (iI a)] S (kIS 1 (UG S g z o (plF f b a))) := by
  have ct := c_X2_takerOf hg ok (b := b) (a := a) (by omega) (by omega)
  rw [ht] at ct
  obtain ⟨o0, o1, o2, o3, o4, o5, o7, o9, o10, o12, o13, -⟩ := ok
  obtain ⟨p0, p1, p2, p3, p4, p5, p6, p7, p8, p9, p10, p11, p12, p13, p14, p15, p16, p17, p18⟩ := plF_at1 ht
  refine Ct.ofJ (by decide +kernel) (Nat.le_of_ble_eq_true rfl) ?_
  refine J_L (L1 := [some (.ref g), some (.int (iI b)), some (.int (iI a)), none, none, none, none]) rfl ?_
  refine J_aload_n (pc1 := 1) rfl (i := 0) rfl dX2_playRound_0 rfl ?_
  refine J_iload_n (pc1 := 2) rfl (i := 1) rfl dX2_playRound_1 rfl ?_
  refine J_iload_n (pc1 := 3) rfl (i := 2) rfl dX2_playRound_2 rfl ?_
  refine J_callVI (pc1 := 6) (As := [.int (iI b), .int (iI a)]) gv_X2_72 yv_X2_takerOf rfl (ct) dX2_playRound_3 rfl hg.1 rfl rfl (by omega) (by decide) (Nat.zero_le _) (Nat.zero_le _) (Nat.le_of_ble_eq_true rfl) ?_
  refine J_istore_n (pc1 := 7) (L1 := [some (.ref g), some (.int (iI b)), some (.int (iI a)), some (.int (iI 1)), none, none, none]) rfl (i := 3) dX2_playRound_6 rfl (by decide) rfl rfl ?_
  refine J_iload_n (pc1 := 8) rfl (i := 3) rfl dX2_playRound_7 rfl ?_
  refine J_aload_n (pc1 := 9) rfl (i := 0) rfl dX2_playRound_8 rfl ?_
  refine J_get (pc1 := 12) (j := 5) inUX2 (ci := 2) rfl (by decide) lf_X2_37 dX2_playRound_9 rfl hg.1 rfl ?_
  refine J_icmp_ne (pc1 := 15) (tgt := 19) (by decide) (by decide) (by omega) (by omega) dX2_playRound_12 rfl rfl (fun h1 => ?_) (fun h1 => ?_)
  · refine J_iload_n (pc1 := 20) rfl (i := 2) rfl dX2_playRound_19 rfl ?_
    refine J_istore (pc1 := 22) (L1 := [some (.ref g), some (.int (iI b)), some (.int (iI a)), some (.int (iI 1)), some (.int (iI a)), none, none]) dX2_playRound_20 rfl (by decide) rfl rfl ?_
    refine J_aload_n (pc1 := 23) rfl (i := 0) rfl dX2_playRound_22 rfl ?_
    refine J_iload_n (pc1 := 24) rfl (i := 3) rfl dX2_playRound_23 rfl ?_
    refine J_callVF (pc1 := 27) (As := [.int (iI 1)]) gv_X2_57 yv_X2_sideOf rfl (c_X2_sideOf1 hg.1) dX2_playRound_24 rfl hg.1 rfl rfl (by omega) (by decide) (Nat.zero_le _) (Nat.zero_le _) (Nat.le_of_ble_eq_true rfl) ?_
    refine J_astore (pc1 := 29) (L1 := [some (.ref g), some (.int (iI b)), some (.int (iI a)), some (.int (iI 1)), some (.int (iI a)), some (.ref o), none]) dX2_playRound_27 rfl (by decide) rfl rfl ?_
    refine J_aload (pc1 := 31) rfl dX2_playRound_29 rfl ?_
    refine J_dup (pc1 := 32) rfl dX2_playRound_31 rfl ?_
    refine J_get (pc1 := 35) (j := 1) inUX6 (ci := 6) rfl (by decide) lf_X2_61 dX2_playRound_32 rfl hg.2.2.1 rfl ?_
    refine J_iload (pc1 := 37) rfl dX2_playRound_35 rfl ?_
    refine J_isub (pc1 := 38) dX2_playRound_37 rfl ?_
    refine J_put (pc1 := 41) (ty := .int) (j := 1) (fs1 := [.int (iI (f 10)), .int (iI ((f 8) - a)), .int (iI (f 12)), .int (iI (f 14)), .int (iI (f 16))]) inUX6 (ci := 6) rfl (by decide) tyX6 tyX6_ok nmX6 rfl (by decide +kernel) lf_X2_61 dX2_playRound_38 rfl hg.2.2.1 rfl (by rfl) (Nat.le_of_ble_eq_true rfl) rfl ?_
    refine J_aload (pc1 := 43) rfl dX2_playRound_41 rfl ?_
    refine J_dup (pc1 := 44) rfl dX2_playRound_43 rfl ?_
    refine J_get (pc1 := 47) (j := 2) inUX6 (ci := 6) rfl (by decide) lf_X2_76 dX2_playRound_44 rfl (pu_self _ _ _) rfl ?_
    refine J_iload (pc1 := 49) rfl dX2_playRound_47 rfl ?_
    refine J_iadd (pc1 := 50) dX2_playRound_49 rfl ?_
    refine J_put (pc1 := 53) (ty := .int) (j := 2) (fs1 := [.int (iI (f 10)), .int (iI ((f 8) - a)), .int (iI ((f 12) + a)), .int (iI (f 14)), .int (iI (f 16))]) inUX6 (ci := 6) rfl (by decide) tyX6 tyX6_ok nmX6 rfl (by decide +kernel) lf_X2_76 dX2_playRound_50 rfl (pu_self _ _ _) rfl (by rfl) (Nat.le_of_ble_eq_true rfl) rfl ?_
    rw [pu_pu]
    refine J_aload (pc1 := 55) rfl dX2_playRound_53 rfl ?_
    refine J_dup (pc1 := 56) rfl dX2_playRound_55 rfl ?_
    refine J_get (pc1 := 59) (j := 3) inUX6 (ci := 6) rfl (by decide) lf_X2_79 dX2_playRound_56 rfl (pu_self _ _ _) rfl ?_
    refine J_iconst (pc1 := 60) dX2_playRound_59 rfl ?_
    refine J_iadd (pc1 := 61) dX2_playRound_60 rfl ?_
    refine J_put (pc1 := 64) (ty := .int) (j := 3) (fs1 := [.int (iI (f 10)), .int (iI ((f 8) - a)), .int (iI ((f 12) + a)), .int (iI ((f 14) + 1)), .int (iI (f 16))]) inUX6 (ci := 6) rfl (by decide) tyX6 tyX6_ok nmX6 rfl (by decide +kernel) lf_X2_79 dX2_playRound_61 rfl (pu_self _ _ _) rfl (by rfl) (Nat.le_of_ble_eq_true rfl) rfl ?_
    rw [pu_pu]
    refine J_aload_n (pc1 := 65) rfl (i := 0) rfl dX2_playRound_64 rfl ?_
    refine J_iload (pc1 := 67) rfl dX2_playRound_65 rfl ?_
    refine J_callVI (pc1 := 70) (As := [.int (iI a)]) gv_X2_82 yv_X2_gainOf rfl (c_X2_gainOf (p := f 2) ((pu_ne _ _ (ne_ci hg.1 hg.2.2.1 (by decide))).trans hg.1) (by omega)) dX2_playRound_67 rfl ((pu_ne _ _ (ne_ci hg.1 hg.2.2.1 (by decide))).trans hg.1) rfl rfl (by omega) (by decide) (Nat.zero_le _) (Nat.zero_le _) (Nat.le_of_ble_eq_true rfl) ?_
    refine J_istore (pc1 := 72) (L1 := [some (.ref g), some (.int (iI b)), some (.int (iI a)), some (.int (iI 1)), some (.int (iI a)), some (.ref o), some (.int (iI (gaF f a)))]) dX2_playRound_70 rfl (by decide) rfl rfl ?_
    refine J_aload_n (pc1 := 73) rfl (i := 0) rfl dX2_playRound_72 rfl ?_
    refine J_iconst (pc1 := 74) dX2_playRound_73 rfl ?_
    refine J_iload_n (pc1 := 75) rfl (i := 3) rfl dX2_playRound_74 rfl ?_
    refine J_isubE (pc1 := 76) (z := 0) (by decide) dX2_playRound_75 rfl ?_
    refine J_callVF (pc1 := 79) (As := [.int (iI 0)]) gv_X2_57 yv_X2_sideOf rfl (c_X2_sideOf0 ((pu_ne _ _ (ne_ci hg.1 hg.2.2.1 (by decide))).trans hg.1)) dX2_playRound_76 rfl ((pu_ne _ _ (ne_ci hg.1 hg.2.2.1 (by decide))).trans hg.1) rfl rfl (by omega) (by decide) (Nat.zero_le _) (Nat.zero_le _) (Nat.le_of_ble_eq_true rfl) ?_
    refine J_dup (pc1 := 80) rfl dX2_playRound_79 rfl ?_
    refine J_get (pc1 := 83) (j := 1) inUX6 (ci := 6) rfl (by decide) lf_X2_61 dX2_playRound_80 rfl ((pu_ne _ _ hg.2.2.2).trans hg.2.1) rfl ?_
    refine J_iload (pc1 := 85) rfl dX2_playRound_83 rfl ?_
    refine J_iadd (pc1 := 86) dX2_playRound_85 rfl ?_
    refine J_put (pc1 := 89) (ty := .int) (j := 1) (fs1 := [.int (iI (f 9)), .int (iI ((f 7) + (gaF f a))), .int (iI (f 11)), .int (iI (f 13)), .int (iI (f 15))]) inUX6 (ci := 6) rfl (by decide) tyX6 tyX6_ok nmX6 rfl (by decide +kernel) lf_X2_61 dX2_playRound_86 rfl ((pu_ne _ _ hg.2.2.2).trans hg.2.1) rfl (by rfl) (Nat.le_of_ble_eq_true rfl) rfl ?_
    refine J_aload_n (pc1 := 90) rfl (i := 0) rfl dX2_playRound_89 rfl ?_
    refine J_dup (pc1 := 91) rfl dX2_playRound_90 rfl ?_
    refine J_get (pc1 := 94) (j := 7) inUX2 (ci := 2) rfl (by decide) lf_X2_43 dX2_playRound_91 rfl ((pu_ne _ _ (ne_ci hg.1 hg.2.1 (by decide))).trans ((pu_ne _ _ (ne_ci hg.1 hg.2.2.1 (by decide))).trans hg.1)) rfl ?_
    refine J_iload (pc1 := 96) rfl dX2_playRound_94 rfl ?_
    refine J_iload (pc1 := 98) rfl dX2_playRound_96 rfl ?_
    refine J_isub (pc1 := 99) dX2_playRound_98 rfl ?_
    refine J_iadd (pc1 := 100) dX2_playRound_99 rfl ?_
    refine J_put (pc1 := 103) (ty := .int) (j := 7) (fs1 := [.int (iI (f 0)), .int (iI (f 1)), .int (iI (f 2)), .int (iI (f 3)), .int (iI (f 4)), .int (iI (f 5)), .int (iI (f 6)), .int (iI ((f 17) + (a - (gaF f a)))), .ref z, .ref o]) inUX2 (ci := 2) rfl (by decide) tyX2 tyX2_ok nmX2 rfl (by decide +kernel) lf_X2_43 dX2_playRound_100 rfl ((pu_ne _ _ (ne_ci hg.1 hg.2.1 (by decide))).trans ((pu_ne _ _ (ne_ci hg.1 hg.2.2.1 (by decide))).trans hg.1)) rfl (by rfl) (Nat.le_of_ble_eq_true rfl) rfl ?_
    refine J_aload_n (pc1 := 104) rfl (i := 0) rfl dX2_playRound_103 rfl ?_
    refine J_dup (pc1 := 105) rfl dX2_playRound_104 rfl ?_
    refine J_get (pc1 := 108) (j := 4) inUX2 (ci := 2) rfl (by decide) lf_X2_34 dX2_playRound_105 rfl (pu_self _ _ _) rfl ?_
    refine J_iload_n (pc1 := 109) rfl (i := 3) rfl dX2_playRound_108 rfl ?_
    refine J_if_ne (pc1 := 112) (tgt := 116) (by decide) (by decide) dX2_playRound_109 rfl rfl (fun h2 => ?_) (fun h2 => ?_)
    · refine J_iconst (pc1 := 117) dX2_playRound_116 rfl ?_
      refine J_iadd (pc1 := 118) dX2_playRound_117 rfl ?_
      refine J_put (pc1 := 121) (ty := .int) (j := 4) (fs1 := [.int (iI (f 0)), .int (iI (f 1)), .int (iI (f 2)), .int (iI (f 3)), .int (iI ((f 4) + (-1))), .int (iI (f 5)), .int (iI (f 6)), .int (iI ((f 17) + (a - (gaF f a)))), .ref z, .ref o]) inUX2 (ci := 2) rfl (by decide) tyX2 tyX2_ok nmX2 rfl (by decide +kernel) lf_X2_34 dX2_playRound_118 rfl (pu_self _ _ _) rfl (by rfl) (Nat.le_of_ble_eq_true rfl) rfl ?_
      rw [pu_pu]
      refine J_aload_n (pc1 := 122) rfl (i := 0) rfl dX2_playRound_121 rfl ?_
      refine J_iconst (pc1 := 123) dX2_playRound_122 rfl ?_
      refine J_aload_n (pc1 := 124) rfl (i := 0) rfl dX2_playRound_123 rfl ?_
      refine J_get (pc1 := 127) (j := 5) inUX2 (ci := 2) rfl (by decide) lf_X2_37 dX2_playRound_124 rfl (pu_self _ _ _) rfl ?_
      refine J_isub (pc1 := 128) dX2_playRound_127 rfl ?_
      refine J_put (pc1 := 131) (ty := .int) (j := 5) (fs1 := [.int (iI (f 0)), .int (iI (f 1)), .int (iI (f 2)), .int (iI (f 3)), .int (iI ((f 4) + (-1))), .int (iI (1 - (f 5))), .int (iI (f 6)), .int (iI ((f 17) + (a - (gaF f a)))), .ref z, .ref o]) inUX2 (ci := 2) rfl (by decide) tyX2 tyX2_ok nmX2 rfl (by decide +kernel) lf_X2_37 dX2_playRound_128 rfl (pu_self _ _ _) rfl (by rfl) (Nat.le_of_ble_eq_true rfl) rfl ?_
      rw [pu_pu]
      refine J_aload_n (pc1 := 132) rfl (i := 0) rfl dX2_playRound_131 rfl ?_
      refine J_dup (pc1 := 133) rfl dX2_playRound_132 rfl ?_
      refine J_get (pc1 := 136) (j := 6) inUX2 (ci := 2) rfl (by decide) lf_X2_40 dX2_playRound_133 rfl (pu_self _ _ _) rfl ?_
      refine J_iconst (pc1 := 137) dX2_playRound_136 rfl ?_
      refine J_iadd (pc1 := 138) dX2_playRound_137 rfl ?_
      refine J_put (pc1 := 141) (ty := .int) (j := 6) (fs1 := [.int (iI (f 0)), .int (iI (f 1)), .int (iI (f 2)), .int (iI (f 3)), .int (iI ((f 4) + (-1))), .int (iI (1 - (f 5))), .int (iI ((f 6) + 1)), .int (iI ((f 17) + (a - (gaF f a)))), .ref z, .ref o]) inUX2 (ci := 2) rfl (by decide) tyX2 tyX2_ok nmX2 rfl (by decide +kernel) lf_X2_40 dX2_playRound_138 rfl (pu_self _ _ _) rfl (by rfl) (Nat.le_of_ble_eq_true rfl) rfl ?_
      rw [pu_pu]
      refine J_aload_n (pc1 := 142) rfl (i := 0) rfl dX2_playRound_141 rfl ?_
      refine J_callVI (pc1 := 145) (As := []) gv_X2_64 yv_X2_isOver rfl (c_X2_isOver (e := f 0) (h := (f 4) + (-1)) (pu_self _ _ _) (by omega) (by omega)) dX2_playRound_142 rfl (pu_self _ _ _) rfl rfl (by omega) (by decide) (Nat.zero_le _) (Nat.zero_le _) (Nat.le_of_ble_eq_true rfl) ?_
      refine J_if_eq (pc1 := 148) (tgt := 159) (bZ_lo _) (bZ_hi _) dX2_playRound_145 rfl rfl (fun h3 => ?_) (fun h3 => ?_)
      · refine J_iload_n (pc1 := 160) rfl (i := 3) rfl dX2_playRound_159 rfl ?_
        exact J_iret rfl rfl dX2_playRound_160 (Nat.le_refl _) (Nat.le_refl _) (⟨rfl, ⟨⟨((pu_self _ _ _).trans (gmO_c (by exact p0.symm) (by exact p1.symm) (by exact p2.symm) (by exact p3.symm) (by exact p4.symm) (by exact p5.symm) (by exact p6.symm) (by rw [p17]; unfold prF; rw [ht]; first | rw [if_pos (by omega)] | rw [if_neg (by omega)]))), (((pu_ne _ _ (ne_ci hg.2.1 hg.1 (by decide))).trans (pu_self _ _ _)).trans (sdO_c (by exact p9.symm) (by rw [p7]; unfold prF; rw [ht]; first | rw [if_pos (by omega)] | rw [if_neg (by omega)]) (by exact p11.symm) (by exact p13.symm) (by exact p15.symm))), (((pu_ne _ _ (ne_ci hg.2.2.1 hg.1 (by decide))).trans ((pu_ne _ _ (Ne.symm hg.2.2.2)).trans (pu_self _ _ _))).trans (sdO_c (by exact p10.symm) (by rw [p8]; unfold prF; rw [ht]; first | rw [if_pos (by omega)] | rw [if_neg (by omega)]) (by rw [p12]; unfold prF; rw [ht]; first | rw [if_pos (by omega)] | rw [if_neg (by omega)]) (by exact p14.symm) (by rw [p16]; (first | rw [if_pos (Decidable.not_not.mp (bZ_0 (by assumption)))] | rw [if_neg (bZ_1 (by assumption))]); try omega))), hg.2.2.2⟩, fun x h1 h2 h3 => ((pu_ne _ _ h1).trans ((pu_ne _ _ h2).trans (pu_ne _ _ h3)))⟩⟩)
      · refine J_aload (pc1 := 150) rfl dX2_playRound_148 rfl ?_
        refine J_dup (pc1 := 151) rfl dX2_playRound_150 rfl ?_
        refine J_get (pc1 := 154) (j := 4) inUX6 (ci := 6) rfl (by decide) lf_X2_85 dX2_playRound_151 rfl ((pu_ne _ _ (ne_ci hg.2.2.1 hg.1 (by decide))).trans ((pu_ne _ _ (Ne.symm hg.2.2.2)).trans (pu_self _ _ _))) rfl ?_
        refine J_iconst (pc1 := 155) dX2_playRound_154 rfl ?_
        refine J_iadd (pc1 := 156) dX2_playRound_155 rfl ?_
        refine J_put (pc1 := 159) (ty := .int) (j := 4) (fs1 := [.int (iI (f 10)), .int (iI ((f 8) - a)), .int (iI ((f 12) + a)), .int (iI ((f 14) + 1)), .int (iI ((f 16) + 1))]) inUX6 (ci := 6) rfl (by decide) tyX6 tyX6_ok nmX6 rfl (by decide +kernel) lf_X2_85 dX2_playRound_156 rfl ((pu_ne _ _ (ne_ci hg.2.2.1 hg.1 (by decide))).trans ((pu_ne _ _ (Ne.symm hg.2.2.2)).trans (pu_self _ _ _))) rfl (by rfl) (Nat.le_of_ble_eq_true rfl) rfl ?_
        refine J_iload_n (pc1 := 160) rfl (i := 3) rfl dX2_playRound_159 rfl ?_
        exact J_iret rfl rfl dX2_playRound_160 (Nat.le_refl _) (Nat.le_refl _) (⟨rfl, ⟨⟨(((pu_ne _ _ (ne_ci hg.1 hg.2.2.1 (by decide))).trans (pu_self _ _ _)).trans (gmO_c (by exact p0.symm) (by exact p1.symm) (by exact p2.symm) (by exact p3.symm) (by exact p4.symm) (by exact p5.symm) (by exact p6.symm) (by rw [p17]; unfold prF; rw [ht]; first | rw [if_pos (by omega)] | rw [if_neg (by omega)]))), (((pu_ne _ _ hg.2.2.2).trans ((pu_ne _ _ (ne_ci hg.2.1 hg.1 (by decide))).trans (pu_self _ _ _))).trans (sdO_c (by exact p9.symm) (by rw [p7]; unfold prF; rw [ht]; first | rw [if_pos (by omega)] | rw [if_neg (by omega)]) (by exact p11.symm) (by exact p13.symm) (by exact p15.symm))), ((pu_self _ _ _).trans (sdO_c (by exact p10.symm) (by rw [p8]; unfold prF; rw [ht]; first | rw [if_pos (by omega)] | rw [if_neg (by omega)]) (by rw [p12]; unfold prF; rw [ht]; first | rw [if_pos (by omega)] | rw [if_neg (by omega)]) (by exact p14.symm) (by rw [p16]; (first | rw [if_pos (Decidable.not_not.mp (bZ_0 (by assumption)))] | rw [if_neg (bZ_1 (by assumption))]); try omega))), hg.2.2.2⟩, fun x h1 h2 h3 => ((pu_ne _ _ h3).trans ((pu_ne _ _ h1).trans ((pu_ne _ _ h2).trans (pu_ne _ _ h3))))⟩⟩)
    · exact absurd h2 (by decide)
  · refine J_iload_n (pc1 := 16) rfl (i := 1) rfl dX2_playRound_15 rfl ?_
    refine J_goto (tgt := 20) dX2_playRound_16 rfl ?_
    refine J_istore (pc1 := 22) (L1 := [some (.ref g), some (.int (iI b)), some (.int (iI a)), some (.int (iI 1)), some (.int (iI b)), none, none]) dX2_playRound_20 rfl (by decide) rfl rfl ?_
    refine J_aload_n (pc1 := 23) rfl (i := 0) rfl dX2_playRound_22 rfl ?_
    refine J_iload_n (pc1 := 24) rfl (i := 3) rfl dX2_playRound_23 rfl ?_
    refine J_callVF (pc1 := 27) (As := [.int (iI 1)]) gv_X2_57 yv_X2_sideOf rfl (c_X2_sideOf1 hg.1) dX2_playRound_24 rfl hg.1 rfl rfl (by omega) (by decide) (Nat.zero_le _) (Nat.zero_le _) (Nat.le_of_ble_eq_true rfl) ?_
    refine J_astore (pc1 := 29) (L1 := [some (.ref g), some (.int (iI b)), some (.int (iI a)), some (.int (iI 1)), some (.int (iI b)), some (.ref o), none]) dX2_playRound_27 rfl (by decide) rfl rfl ?_
    refine J_aload (pc1 := 31) rfl dX2_playRound_29 rfl ?_
    refine J_dup (pc1 := 32) rfl dX2_playRound_31 rfl ?_
    refine J_get (pc1 := 35) (j := 1) inUX6 (ci := 6) rfl (by decide) lf_X2_61 dX2_playRound_32 rfl hg.2.2.1 rfl ?_
    refine J_iload (pc1 := 37) rfl dX2_playRound_35 rfl ?_
    refine J_isub (pc1 := 38) dX2_playRound_37 rfl ?_
    refine J_put (pc1 := 41) (ty := .int) (j := 1) (fs1 := [.int (iI (f 10)), .int (iI ((f 8) - b)), .int (iI (f 12)), .int (iI (f 14)), .int (iI (f 16))]) inUX6 (ci := 6) rfl (by decide) tyX6 tyX6_ok nmX6 rfl (by decide +kernel) lf_X2_61 dX2_playRound_38 rfl hg.2.2.1 rfl (by rfl) (Nat.le_of_ble_eq_true rfl) rfl ?_
    refine J_aload (pc1 := 43) rfl dX2_playRound_41 rfl ?_
    refine J_dup (pc1 := 44) rfl dX2_playRound_43 rfl ?_
    refine J_get (pc1 := 47) (j := 2) inUX6 (ci := 6) rfl (by decide) lf_X2_76 dX2_playRound_44 rfl (pu_self _ _ _) rfl ?_
    refine J_iload (pc1 := 49) rfl dX2_playRound_47 rfl ?_
    refine J_iadd (pc1 := 50) dX2_playRound_49 rfl ?_
    refine J_put (pc1 := 53) (ty := .int) (j := 2) (fs1 := [.int (iI (f 10)), .int (iI ((f 8) - b)), .int (iI ((f 12) + b)), .int (iI (f 14)), .int (iI (f 16))]) inUX6 (ci := 6) rfl (by decide) tyX6 tyX6_ok nmX6 rfl (by decide +kernel) lf_X2_76 dX2_playRound_50 rfl (pu_self _ _ _) rfl (by rfl) (Nat.le_of_ble_eq_true rfl) rfl ?_
    rw [pu_pu]
    refine J_aload (pc1 := 55) rfl dX2_playRound_53 rfl ?_
    refine J_dup (pc1 := 56) rfl dX2_playRound_55 rfl ?_
    refine J_get (pc1 := 59) (j := 3) inUX6 (ci := 6) rfl (by decide) lf_X2_79 dX2_playRound_56 rfl (pu_self _ _ _) rfl ?_
    refine J_iconst (pc1 := 60) dX2_playRound_59 rfl ?_
    refine J_iadd (pc1 := 61) dX2_playRound_60 rfl ?_
    refine J_put (pc1 := 64) (ty := .int) (j := 3) (fs1 := [.int (iI (f 10)), .int (iI ((f 8) - b)), .int (iI ((f 12) + b)), .int (iI ((f 14) + 1)), .int (iI (f 16))]) inUX6 (ci := 6) rfl (by decide) tyX6 tyX6_ok nmX6 rfl (by decide +kernel) lf_X2_79 dX2_playRound_61 rfl (pu_self _ _ _) rfl (by rfl) (Nat.le_of_ble_eq_true rfl) rfl ?_
    rw [pu_pu]
    refine J_aload_n (pc1 := 65) rfl (i := 0) rfl dX2_playRound_64 rfl ?_
    refine J_iload (pc1 := 67) rfl dX2_playRound_65 rfl ?_
    refine J_callVI (pc1 := 70) (As := [.int (iI b)]) gv_X2_82 yv_X2_gainOf rfl (c_X2_gainOf (p := f 2) ((pu_ne _ _ (ne_ci hg.1 hg.2.2.1 (by decide))).trans hg.1) (by omega)) dX2_playRound_67 rfl ((pu_ne _ _ (ne_ci hg.1 hg.2.2.1 (by decide))).trans hg.1) rfl rfl (by omega) (by decide) (Nat.zero_le _) (Nat.zero_le _) (Nat.le_of_ble_eq_true rfl) ?_
    refine J_istore (pc1 := 72) (L1 := [some (.ref g), some (.int (iI b)), some (.int (iI a)), some (.int (iI 1)), some (.int (iI b)), some (.ref o), some (.int (iI (gaF f b)))]) dX2_playRound_70 rfl (by decide) rfl rfl ?_
    refine J_aload_n (pc1 := 73) rfl (i := 0) rfl dX2_playRound_72 rfl ?_
    refine J_iconst (pc1 := 74) dX2_playRound_73 rfl ?_
    refine J_iload_n (pc1 := 75) rfl (i := 3) rfl dX2_playRound_74 rfl ?_
    refine J_isubE (pc1 := 76) (z := 0) (by decide) dX2_playRound_75 rfl ?_
    refine J_callVF (pc1 := 79) (As := [.int (iI 0)]) gv_X2_57 yv_X2_sideOf rfl (c_X2_sideOf0 ((pu_ne _ _ (ne_ci hg.1 hg.2.2.1 (by decide))).trans hg.1)) dX2_playRound_76 rfl ((pu_ne _ _ (ne_ci hg.1 hg.2.2.1 (by decide))).trans hg.1) rfl rfl (by omega) (by decide) (Nat.zero_le _) (Nat.zero_le _) (Nat.le_of_ble_eq_true rfl) ?_
    refine J_dup (pc1 := 80) rfl dX2_playRound_79 rfl ?_
    refine J_get (pc1 := 83) (j := 1) inUX6 (ci := 6) rfl (by decide) lf_X2_61 dX2_playRound_80 rfl ((pu_ne _ _ hg.2.2.2).trans hg.2.1) rfl ?_
    refine J_iload (pc1 := 85) rfl dX2_playRound_83 rfl ?_
    refine J_iadd (pc1 := 86) dX2_playRound_85 rfl ?_
    refine J_put (pc1 := 89) (ty := .int) (j := 1) (fs1 := [.int (iI (f 9)), .int (iI ((f 7) + (gaF f b))), .int (iI (f 11)), .int (iI (f 13)), .int (iI (f 15))]) inUX6 (ci := 6) rfl (by decide) tyX6 tyX6_ok nmX6 rfl (by decide +kernel) lf_X2_61 dX2_playRound_86 rfl ((pu_ne _ _ hg.2.2.2).trans hg.2.1) rfl (by rfl) (Nat.le_of_ble_eq_true rfl) rfl ?_
    refine J_aload_n (pc1 := 90) rfl (i := 0) rfl dX2_playRound_89 rfl ?_
    refine J_dup (pc1 := 91) rfl dX2_playRound_90 rfl ?_
    refine J_get (pc1 := 94) (j := 7) inUX2 (ci := 2) rfl (by decide) lf_X2_43 dX2_playRound_91 rfl ((pu_ne _ _ (ne_ci hg.1 hg.2.1 (by decide))).trans ((pu_ne _ _ (ne_ci hg.1 hg.2.2.1 (by decide))).trans hg.1)) rfl ?_
    refine J_iload (pc1 := 96) rfl dX2_playRound_94 rfl ?_
    refine J_iload (pc1 := 98) rfl dX2_playRound_96 rfl ?_
    refine J_isub (pc1 := 99) dX2_playRound_98 rfl ?_
    refine J_iadd (pc1 := 100) dX2_playRound_99 rfl ?_
    refine J_put (pc1 := 103) (ty := .int) (j := 7) (fs1 := [.int (iI (f 0)), .int (iI (f 1)), .int (iI (f 2)), .int (iI (f 3)), .int (iI (f 4)), .int (iI (f 5)), .int (iI (f 6)), .int (iI ((f 17) + (b - (gaF f b)))), .ref z, .ref o]) inUX2 (ci := 2) rfl (by decide) tyX2 tyX2_ok nmX2 rfl (by decide +kernel) lf_X2_43 dX2_playRound_100 rfl ((pu_ne _ _ (ne_ci hg.1 hg.2.1 (by decide))).trans ((pu_ne _ _ (ne_ci hg.1 hg.2.2.1 (by decide))).trans hg.1)) rfl (by rfl) (Nat.le_of_ble_eq_true rfl) rfl ?_
    refine J_aload_n (pc1 := 104) rfl (i := 0) rfl dX2_playRound_103 rfl ?_
    refine J_dup (pc1 := 105) rfl dX2_playRound_104 rfl ?_
    refine J_get (pc1 := 108) (j := 4) inUX2 (ci := 2) rfl (by decide) lf_X2_34 dX2_playRound_105 rfl (pu_self _ _ _) rfl ?_
    refine J_iload_n (pc1 := 109) rfl (i := 3) rfl dX2_playRound_108 rfl ?_
    refine J_if_ne (pc1 := 112) (tgt := 116) (by decide) (by decide) dX2_playRound_109 rfl rfl (fun h4 => ?_) (fun h4 => ?_)
    · refine J_iconst (pc1 := 117) dX2_playRound_116 rfl ?_
      refine J_iadd (pc1 := 118) dX2_playRound_117 rfl ?_
      refine J_put (pc1 := 121) (ty := .int) (j := 4) (fs1 := [.int (iI (f 0)), .int (iI (f 1)), .int (iI (f 2)), .int (iI (f 3)), .int (iI ((f 4) + (-1))), .int (iI (f 5)), .int (iI (f 6)), .int (iI ((f 17) + (b - (gaF f b)))), .ref z, .ref o]) inUX2 (ci := 2) rfl (by decide) tyX2 tyX2_ok nmX2 rfl (by decide +kernel) lf_X2_34 dX2_playRound_118 rfl (pu_self _ _ _) rfl (by rfl) (Nat.le_of_ble_eq_true rfl) rfl ?_
      rw [pu_pu]
      refine J_aload_n (pc1 := 122) rfl (i := 0) rfl dX2_playRound_121 rfl ?_
      refine J_iconst (pc1 := 123) dX2_playRound_122 rfl ?_
      refine J_aload_n (pc1 := 124) rfl (i := 0) rfl dX2_playRound_123 rfl ?_
      refine J_get (pc1 := 127) (j := 5) inUX2 (ci := 2) rfl (by decide) lf_X2_37 dX2_playRound_124 rfl (pu_self _ _ _) rfl ?_
      refine J_isub (pc1 := 128) dX2_playRound_127 rfl ?_
      refine J_put (pc1 := 131) (ty := .int) (j := 5) (fs1 := [.int (iI (f 0)), .int (iI (f 1)), .int (iI (f 2)), .int (iI (f 3)), .int (iI ((f 4) + (-1))), .int (iI (1 - (f 5))), .int (iI (f 6)), .int (iI ((f 17) + (b - (gaF f b)))), .ref z, .ref o]) inUX2 (ci := 2) rfl (by decide) tyX2 tyX2_ok nmX2 rfl (by decide +kernel) lf_X2_37 dX2_playRound_128 rfl (pu_self _ _ _) rfl (by rfl) (Nat.le_of_ble_eq_true rfl) rfl ?_
      rw [pu_pu]
      refine J_aload_n (pc1 := 132) rfl (i := 0) rfl dX2_playRound_131 rfl ?_
      refine J_dup (pc1 := 133) rfl dX2_playRound_132 rfl ?_
      refine J_get (pc1 := 136) (j := 6) inUX2 (ci := 2) rfl (by decide) lf_X2_40 dX2_playRound_133 rfl (pu_self _ _ _) rfl ?_
      refine J_iconst (pc1 := 137) dX2_playRound_136 rfl ?_
      refine J_iadd (pc1 := 138) dX2_playRound_137 rfl ?_
      refine J_put (pc1 := 141) (ty := .int) (j := 6) (fs1 := [.int (iI (f 0)), .int (iI (f 1)), .int (iI (f 2)), .int (iI (f 3)), .int (iI ((f 4) + (-1))), .int (iI (1 - (f 5))), .int (iI ((f 6) + 1)), .int (iI ((f 17) + (b - (gaF f b)))), .ref z, .ref o]) inUX2 (ci := 2) rfl (by decide) tyX2 tyX2_ok nmX2 rfl (by decide +kernel) lf_X2_40 dX2_playRound_138 rfl (pu_self _ _ _) rfl (by rfl) (Nat.le_of_ble_eq_true rfl) rfl ?_
      rw [pu_pu]
      refine J_aload_n (pc1 := 142) rfl (i := 0) rfl dX2_playRound_141 rfl ?_
      refine J_callVI (pc1 := 145) (As := []) gv_X2_64 yv_X2_isOver rfl (c_X2_isOver (e := f 0) (h := (f 4) + (-1)) (pu_self _ _ _) (by omega) (by omega)) dX2_playRound_142 rfl (pu_self _ _ _) rfl rfl (by omega) (by decide) (Nat.zero_le _) (Nat.zero_le _) (Nat.le_of_ble_eq_true rfl) ?_
      refine J_if_eq (pc1 := 148) (tgt := 159) (bZ_lo _) (bZ_hi _) dX2_playRound_145 rfl rfl (fun h5 => ?_) (fun h5 => ?_)
      · refine J_iload_n (pc1 := 160) rfl (i := 3) rfl dX2_playRound_159 rfl ?_
        exact J_iret rfl rfl dX2_playRound_160 (Nat.le_refl _) (Nat.le_refl _) (⟨rfl, ⟨⟨((pu_self _ _ _).trans (gmO_c (by exact p0.symm) (by exact p1.symm) (by exact p2.symm) (by exact p3.symm) (by exact p4.symm) (by exact p5.symm) (by exact p6.symm) (by rw [p17]; unfold prF; rw [ht]; first | rw [if_pos (by omega)] | rw [if_neg (by omega)]))), (((pu_ne _ _ (ne_ci hg.2.1 hg.1 (by decide))).trans (pu_self _ _ _)).trans (sdO_c (by exact p9.symm) (by rw [p7]; unfold prF; rw [ht]; first | rw [if_pos (by omega)] | rw [if_neg (by omega)]) (by exact p11.symm) (by exact p13.symm) (by exact p15.symm))), (((pu_ne _ _ (ne_ci hg.2.2.1 hg.1 (by decide))).trans ((pu_ne _ _ (Ne.symm hg.2.2.2)).trans (pu_self _ _ _))).trans (sdO_c (by exact p10.symm) (by rw [p8]; unfold prF; rw [ht]; first | rw [if_pos (by omega)] | rw [if_neg (by omega)]) (by rw [p12]; unfold prF; rw [ht]; first | rw [if_pos (by omega)] | rw [if_neg (by omega)]) (by exact p14.symm) (by rw [p16]; (first | rw [if_pos (Decidable.not_not.mp (bZ_0 (by assumption)))] | rw [if_neg (bZ_1 (by assumption))]); try omega))), hg.2.2.2⟩, fun x h1 h2 h3 => ((pu_ne _ _ h1).trans ((pu_ne _ _ h2).trans (pu_ne _ _ h3)))⟩⟩)
      · refine J_aload (pc1 := 150) rfl dX2_playRound_148 rfl ?_
        refine J_dup (pc1 := 151) rfl dX2_playRound_150 rfl ?_
        refine J_get (pc1 := 154) (j := 4) inUX6 (ci := 6) rfl (by decide) lf_X2_85 dX2_playRound_151 rfl ((pu_ne _ _ (ne_ci hg.2.2.1 hg.1 (by decide))).trans ((pu_ne _ _ (Ne.symm hg.2.2.2)).trans (pu_self _ _ _))) rfl ?_
        refine J_iconst (pc1 := 155) dX2_playRound_154 rfl ?_
        refine J_iadd (pc1 := 156) dX2_playRound_155 rfl ?_
        refine J_put (pc1 := 159) (ty := .int) (j := 4) (fs1 := [.int (iI (f 10)), .int (iI ((f 8) - b)), .int (iI ((f 12) + b)), .int (iI ((f 14) + 1)), .int (iI ((f 16) + 1))]) inUX6 (ci := 6) rfl (by decide) tyX6 tyX6_ok nmX6 rfl (by decide +kernel) lf_X2_85 dX2_playRound_156 rfl ((pu_ne _ _ (ne_ci hg.2.2.1 hg.1 (by decide))).trans ((pu_ne _ _ (Ne.symm hg.2.2.2)).trans (pu_self _ _ _))) rfl (by rfl) (Nat.le_of_ble_eq_true rfl) rfl ?_
        refine J_iload_n (pc1 := 160) rfl (i := 3) rfl dX2_playRound_159 rfl ?_
        exact J_iret rfl rfl dX2_playRound_160 (Nat.le_refl _) (Nat.le_refl _) (⟨rfl, ⟨⟨(((pu_ne _ _ (ne_ci hg.1 hg.2.2.1 (by decide))).trans (pu_self _ _ _)).trans (gmO_c (by exact p0.symm) (by exact p1.symm) (by exact p2.symm) (by exact p3.symm) (by exact p4.symm) (by exact p5.symm) (by exact p6.symm) (by rw [p17]; unfold prF; rw [ht]; first | rw [if_pos (by omega)] | rw [if_neg (by omega)]))), (((pu_ne _ _ hg.2.2.2).trans ((pu_ne _ _ (ne_ci hg.2.1 hg.1 (by decide))).trans (pu_self _ _ _))).trans (sdO_c (by exact p9.symm) (by rw [p7]; unfold prF; rw [ht]; first | rw [if_pos (by omega)] | rw [if_neg (by omega)]) (by exact p11.symm) (by exact p13.symm) (by exact p15.symm))), ((pu_self _ _ _).trans (sdO_c (by exact p10.symm) (by rw [p8]; unfold prF; rw [ht]; first | rw [if_pos (by omega)] | rw [if_neg (by omega)]) (by rw [p12]; unfold prF; rw [ht]; first | rw [if_pos (by omega)] | rw [if_neg (by omega)]) (by exact p14.symm) (by rw [p16]; (first | rw [if_pos (Decidable.not_not.mp (bZ_0 (by assumption)))] | rw [if_neg (bZ_1 (by assumption))]); try omega))), hg.2.2.2⟩, fun x h1 h2 h3 => ((pu_ne _ _ h3).trans ((pu_ne _ _ h1).trans ((pu_ne _ _ h2).trans (pu_ne _ _ h3))))⟩⟩)
    · exact absurd h4 (by decide)
/-- Game.playRound -/
theorem c_X2_playRound {S : pS} {g z o : Nat} {f : Int → Int} (hg : IsG S g z o f) (ok : okF f) {b a : Int} (hb : 0 ≤ b ∧ b ≤ 16) (ha : 0 ≤ a ∧ a ≤ 16) : Ct yX2_playRound cX2_playRound 7 (Option.some FieldType.int) 2 0 0 [.ref g, .int (iI b), .int (iI a)] S (kIS (tkF f b a) (UG S g z o (plF f b a))) := by
  rcases tkF_b ok b a with ht | ht
  · rw [ht]
    exact c_X2_playRound0 hg ok hb ha ht
  · rw [ht]
    exact c_X2_playRound1 hg ok hb ha ht
end
section
/-! 07.times: the tables -/
def wdF (ps top : Int) : Int := if ps = 0 then top + 1 else (top + 1) * (top + 1)
def spF (ps top o f : Int) : Int := if ps = 0 then o else o * (top + 1) + f
def ogF (ps top : Int) : Int → Int := fun x => if ps = 0 then x else x / (top + 1)
def fgF (ps top : Int) : Int → Int := fun x => if ps = 0 then top - x else x % (top + 1)
def ixF (ps top w tw o f b : Int) : Int := (2 * tw + b) * w + spF ps top o f
/-- the numbers of a table -/
def tbN (E ti ps top : Int) (w n : Nat) : Prop := (1 ≤ E ∧ E ≤ 3) ∧ (ti = 0 ∨ ti = 1) ∧ (ps = 0 ∨ ps = 1) ∧ (0 ≤ top ∧ top ≤ 24) ∧ (ps = 1 → top = 8) ∧ (w : Int) = wdF ps top ∧ (n : Int) = (4 * E + 2) * w
theorem tbN_w {E ti ps top : Int} {w n : Nat} (h : tbN E ti ps top w n) : (ps = 0 → (w : Int) = top + 1) ∧ (ps = 1 → top = 8 ∧ w = 81) ∧ 1 ≤ w ∧ w ≤ 81 ∧ n ≤ 1134 ∧ (6 * w ≤ n) := by
  obtain ⟨h1, h2, h3, h4, h5, h6, h7⟩ := h
  have hw : (ps = 0 → (w : Int) = top + 1) ∧ (ps = 1 → top = 8 ∧ w = 81) := by
    refine ⟨fun q => ?_, fun q => ?_⟩
    · unfold wdF at h6
      rw [if_pos q] at h6
      exact h6
    · have h8 := h5 q
      unfold wdF at h6
      rw [if_neg (by omega), h8] at h6
      exact ⟨h8, by omega⟩
  have hw2 : 1 ≤ w ∧ w ≤ 81 := by
    rcases h3 with q | q
    · have := hw.1 q; omega
    · have := (hw.2 q).2; omega
  have hE : E = 1 ∨ E = 2 ∨ E = 3 := by omega
  refine ⟨hw.1, hw.2, hw2.1, hw2.2, ?_⟩
  rcases hE with rfl | rfl | rfl <;> constructor <;> omega
theorem sp_b {E ti ps top tw o f : Int} {w n : Nat} (h : tbN E ti ps top w n) (hv : vd E ps top tw o f) : 0 ≤ spF ps top o f ∧ spF ps top o f < w := by
  obtain ⟨w1, w2, -⟩ := tbN_w h
  obtain ⟨-, -, h3, -⟩ := h
  obtain ⟨v1, v2, v3, v4, v5, v6⟩ := hv
  unfold spF
  rcases h3 with q | q
  · have := w1 q
    have := v5 q
    rw [if_pos q]
    omega
  · obtain ⟨e1, e2⟩ := w2 q
    have := v6 q
    rw [if_neg (by omega), e1]
    omega
theorem row_b {r s w m : Int} (hr : r + 1 ≤ m) (hr0 : 0 ≤ r) (hs0 : 0 ≤ s) (hs : s < w) : 0 ≤ r * w + s ∧ r * w + s < m * w := by
  have h1 : (r + 1) * w ≤ m * w := Int.mul_le_mul_of_nonneg_right hr (by omega)
  have h2 : (r + 1) * w = r * w + w := by rw [Int.add_mul, Int.one_mul]
  have h3 : 0 ≤ r * w := Int.mul_nonneg hr0 (by omega)
  omega
theorem ix_b {E ti ps top tw o f b : Int} {w n : Nat} (h : tbN E ti ps top w n) (hv : vd E ps top tw o f) (hb : b = 0 ∨ b = 1) : 0 ≤ ixF ps top w tw o f b ∧ ixF ps top w tw o f b < n := by
  obtain ⟨s1, s2⟩ := sp_b h hv
  obtain ⟨h1, -, -, -, -, -, h7⟩ := h
  obtain ⟨v1, v2, -⟩ := hv
  rw [h7]
  exact row_b (by omega) (by omega) s1 s2
theorem row_inj {r s r' s' w : Int} (hs0 : 0 ≤ s) (hs : s < w) (hs0' : 0 ≤ s') (hs' : s' < w) (h : r * w + s = r' * w + s') : r = r' ∧ s = s' := by
  have hr : r = r' := by
    have e1 : (r * w + s) / w = r := by rw [Int.add_comm, Int.add_mul_ediv_right _ _ (by omega), Int.ediv_eq_zero_of_lt hs0 hs, Int.zero_add]
    have e2 : (r' * w + s') / w = r' := by rw [Int.add_comm, Int.add_mul_ediv_right _ _ (by omega), Int.ediv_eq_zero_of_lt hs0' hs', Int.zero_add]
    rw [← e1, h, e2]
  subst hr
  exact ⟨rfl, by omega⟩
theorem ix_inj {E ti ps top tw o f b tw' o' f' b' : Int} {w n : Nat} (h : tbN E ti ps top w n) (hv : vd E ps top tw o f) (hb : b = 0 ∨ b = 1) (hv' : vd E ps top tw' o' f') (hb' : b' = 0 ∨ b' = 1) (he : ixF ps top w tw o f b = ixF ps top w tw' o' f' b') : tw = tw' ∧ o = o' ∧ f = f' ∧ b = b' := by
  obtain ⟨s1, s2⟩ := sp_b h hv
  obtain ⟨s3, s4⟩ := sp_b h hv'
  obtain ⟨e1, e2⟩ := row_inj s1 s2 s3 s4 he
  obtain ⟨w1, w2, -⟩ := tbN_w h
  obtain ⟨-, -, h3, -⟩ := h
  obtain ⟨v1, v2, v3, v4, v5, v6⟩ := hv
  obtain ⟨u1, u2, u3, u4, u5, u6⟩ := hv'
  unfold spF at e2
  rcases h3 with q | q
  · rw [if_pos q, if_pos q] at e2
    have := v5 q
    have := u5 q
    omega
  · obtain ⟨t1, t2⟩ := w2 q
    rw [if_neg (by omega), if_neg (by omega), t1] at e2
    have := v6 q
    have := u6 q
    omega
theorem st_of {E ti ps top r x : Int} {w n : Nat} (h : tbN E ti ps top w n) (hr : 0 ≤ r ∧ r < 4 * E + 2) (hx : 0 ≤ x ∧ x < w) : vd E ps top (r / 2) (ogF ps top x) (fgF ps top x) ∧ ixF ps top w (r / 2) (ogF ps top x) (fgF ps top x) (r % 2) = r * w + x := by
  obtain ⟨w1, w2, -⟩ := tbN_w h
  obtain ⟨h1, -, h3, h4, -⟩ := h
  have e1 : 2 * (r / 2) + r % 2 = r := by omega
  unfold ixF
  rw [e1]
  unfold ogF fgF spF vd
  rcases h3 with q | q
  · have := w1 q
    rw [if_pos q, if_pos q, if_pos q]
    exact ⟨⟨by omega, by omega, by omega, by omega, by omega, by omega⟩, rfl⟩
  · obtain ⟨t1, t2⟩ := w2 q
    rw [if_neg (by omega), if_neg (by omega), if_neg (by omega), t1]
    exact ⟨⟨by omega, by omega, by omega, by omega, by omega, by omega⟩, by omega⟩
/-- a table in the pool, its times being tg -/
def TbS (S : pS) (t : Nat) (E ti ps top : Int) (ow fo tm w n : Nat) (tg : Int → Int) : Prop :=
  S t = some (oO 8 [.int (iI E), .int (iI ti), .int (iI (1 - ps)), .int (iI top), .ref ow, .ref fo, .ref tm]) ∧ S ow = some (aI w (ogF ps top)) ∧ S fo = some (aI w (fgF ps top)) ∧ S tm = some (aI n tg) ∧ (∀ x, 0 ≤ tg x ∧ tg x ≤ 9) ∧ tbN E ti ps top w n
def PL (ps top w : Int) (tg : Int → Int) (left : Int) : qP := fun tw o f b => tg (ixF ps top w tw o f b) ≤ left
section JE
variable {y : MethodName} {cc : ByteArray} {nL : Nat} {rt : Option FieldType} {d tc ts : Nat} {K : Option Value → pS → Prop} {c0 s0 : Nat} {S : pS} {pc pc1 : Nat} {L : List (Option Value)} {st : List Value}
theorem J_nm {a : Int} (k : ∀ z : Int, z = a → Jd y cc nL rt d tc ts K c0 s0 S pc L (.int (iI z) :: st)) : Jd y cc nL rt d tc ts K c0 s0 S pc L (.int (iI a) :: st) := k a rfl
theorem J_iorC {P Q : Prop} (hd : decode cc pc = .ok (.ior, 1)) (hp : pc + 1 = pc1) (k : Jd y cc nL rt d tc ts K c0 s0 S pc1 L (.int (iI (bC (P ∨ Q))) :: st)) : Jd y cc nL rt d tc ts K c0 s0 S pc L (.int (iI (bC Q)) :: .int (iI (bC P)) :: st) := by
  refine J_ior hd hp ?_
  have e : iI (bC P) ||| iI (bC Q) = iI (bC (P ∨ Q)) := by
    rcases Classical.em P with p | p <;> rcases Classical.em Q with q | q
    · rw [bC_t p, bC_t q, bC_t (Or.inl p)]; decide
    · rw [bC_t p, bC_f q, bC_t (Or.inl p)]; decide
    · rw [bC_f p, bC_t q, bC_t (Or.inr q)]; decide
    · rw [bC_f p, bC_f q, bC_f (fun z => z.elim p q)]; decide
  rw [e]
  exact k
theorem J_max {a b : Int} {ix : Nat} (a1 : -2147483648 ≤ a) (a2 : a < 2147483648) (b1 : -2147483648 ≤ b) (b2 : b < 2147483648) (hw : Cond.methodLink y.cls ix Lib.Math.max.name ∈ wsU) (hd : decode cc pc = .ok (.invokestatic ix, 3)) (hp : pc + 3 = pc1) (hdd : 1 ≤ d) (hrm : (st.map fun v => v.category).sum ≤ 8) (hc : c0 ≤ tc) (hs : s0 ≤ ts) (k : Jd y cc nL rt d tc ts K c0 s0 S pc1 L (.int (iI (mx a b)) :: st)) : Jd y cc nL rt d tc ts K c0 s0 S pc L (.int (iI b) :: .int (iI a) :: st) := by
  intro p l e R s m args below meth c D q A Q C hR H locs ls hP hS hl
  have C0 := C
  obtain ⟨hx, hb, hml, hown, hts, hrt, hlk, hini, hKK, hA, hdf, hdl, htc, hts2⟩ := C
  subst hp
  refine va_mmax hx hb (hml.trans hl.1.symm) hown (hts _ hw) (hts _ ls_max_Math) (hts _ ln_Math) (hts _ lc_max_Math) (by omega) (by omega) (by omega) (by omega) hd ?_
  have e9 : (if iI a < iI b then iI b else iI a) = iI (mx a b) := by
    unfold mx
    by_cases h9 : a < b
    · rw [if_pos h9, if_pos ((iI_lt a1 a2 b1 b2).mpr h9)]
    · rw [if_neg h9, if_neg (fun z => h9 ((iI_lt a1 a2 b1 b2).mp z))]
  rw [e9]
  exact k p l e R s m args below meth c D q A Q C0 hR H locs ls hP hS hl
theorem J_min {a b : Int} {ix : Nat} (a1 : -2147483648 ≤ a) (a2 : a < 2147483648) (b1 : -2147483648 ≤ b) (b2 : b < 2147483648) (hw : Cond.methodLink y.cls ix Lib.Math.min.name ∈ wsU) (hd : decode cc pc = .ok (.invokestatic ix, 3)) (hp : pc + 3 = pc1) (hdd : 1 ≤ d) (hrm : (st.map fun v => v.category).sum ≤ 8) (hc : c0 ≤ tc) (hs : s0 ≤ ts) (k : Jd y cc nL rt d tc ts K c0 s0 S pc1 L (.int (iI (mn a b)) :: st)) : Jd y cc nL rt d tc ts K c0 s0 S pc L (.int (iI b) :: .int (iI a) :: st) := by
  intro p l e R s m args below meth c D q A Q C hR H locs ls hP hS hl
  have C0 := C
  obtain ⟨hx, hb, hml, hown, hts, hrt, hlk, hini, hKK, hA, hdf, hdl, htc, hts2⟩ := C
  subst hp
  refine va_mmin hx hb (hml.trans hl.1.symm) hown (hts _ hw) (hts _ ls_min_Math) (hts _ ln_Math) (hts _ lc_min_Math) (by omega) (by omega) (by omega) (by omega) hd ?_
  have e9 : (if iI b < iI a then iI b else iI a) = iI (mn a b) := by
    unfold mn
    by_cases h9 : b < a
    · rw [if_pos h9, if_pos ((iI_lt b1 b2 a1 a2).mpr h9)]
    · rw [if_neg h9, if_neg (fun z => h9 ((iI_lt b1 b2 a1 a2).mp z))]
  rw [e9]
  exact k p l e R s m args below meth c D q A Q C0 hR H locs ls hP hS hl
end JE
set_option maxHeartbeats 400000 in
set_option maxRecDepth 20000 in
theorem c_X8_timeAt {S : pS} {t ow fo tm w n : Nat} {E ti ps top : Int} {tg : Int → Int} (T : TbS S t E ti ps top ow fo tm w n tg) {tw o f b : Int} (hv : vd E ps top tw o f) (hb : b = 0 ∨ b = 1) : Ct yX8_timeAt cX8_timeAt 7 (Option.some FieldType.int) 0 0 0 [.ref t, .int (iI tw), .int (iI o), .int (iI f), .int (iI b)] S (kI (tg (ixF ps top w tw o f b)) S) := by
  obtain ⟨n1, n2, n3, n4, n5, n6, n7⟩ := T.2.2.2.2.2
  obtain ⟨w1, w2, w3, w4, w5, w6⟩ := tbN_w T.2.2.2.2.2
  have hg := T.2.2.2.2.1
  obtain ⟨v1, v2, v3, v4, v5, v6⟩ := id hv
  have vt : o ≤ top ∧ f ≤ top := by omega
  refine Ct.ofJ (by decide +kernel) (Nat.le_of_ble_eq_true rfl) ?_
  refine J_L (L1 := [some (.ref t), some (.int (iI tw)), some (.int (iI o)), some (.int (iI f)), some (.int (iI b)), none, none]) rfl ?_
  refine J_iload_n (pc1 := 1) rfl (i := 2) rfl dX8_timeAt_0 rfl ?_
  refine J_if_lt (pc1 := 4) (tgt := 24) (by omega) (by omega) dX8_timeAt_1 rfl rfl (fun h1 => ?_) (fun h1 => ?_)
  · omega
  · refine J_iload_n (pc1 := 5) rfl (i := 2) rfl dX8_timeAt_4 rfl ?_
    refine J_aload_n (pc1 := 6) rfl (i := 0) rfl dX8_timeAt_5 rfl ?_
    refine J_get (pc1 := 9) (j := 3) inUX8 (ci := 8) rfl (by decide) lf_X8_22 dX8_timeAt_6 rfl T.1 rfl ?_
    refine J_icmp_gt (pc1 := 12) (tgt := 24) (by omega) (by omega) (by omega) (by omega) dX8_timeAt_9 rfl rfl (fun h2 => ?_) (fun h2 => ?_)
    · omega
    · refine J_iload_n (pc1 := 13) rfl (i := 3) rfl dX8_timeAt_12 rfl ?_
      refine J_if_lt (pc1 := 16) (tgt := 24) (by omega) (by omega) dX8_timeAt_13 rfl rfl (fun h3 => ?_) (fun h3 => ?_)
      · omega
      · refine J_iload_n (pc1 := 17) rfl (i := 3) rfl dX8_timeAt_16 rfl ?_
        refine J_aload_n (pc1 := 18) rfl (i := 0) rfl dX8_timeAt_17 rfl ?_
        refine J_get (pc1 := 21) (j := 3) inUX8 (ci := 8) rfl (by decide) lf_X8_22 dX8_timeAt_18 rfl T.1 rfl ?_
        refine J_icmp_le (pc1 := 24) (tgt := 27) (by omega) (by omega) (by omega) (by omega) dX8_timeAt_21 rfl rfl (fun h4 => ?_) (fun h4 => ?_)
        · refine J_iconst (pc1 := 28) dX8_timeAt_27 rfl ?_
          refine J_iload_n (pc1 := 29) rfl (i := 1) rfl dX8_timeAt_28 rfl ?_
          refine J_imul (pc1 := 30) dX8_timeAt_29 rfl ?_
          refine J_iload (pc1 := 32) rfl dX8_timeAt_30 rfl ?_
          refine J_if_eq (pc1 := 35) (tgt := 39) (by omega) (by omega) dX8_timeAt_32 rfl rfl (fun h5 => ?_) (fun h5 => ?_)
          · refine J_iconst (pc1 := 40) dX8_timeAt_39 rfl ?_
            refine J_iadd (pc1 := 41) dX8_timeAt_40 rfl ?_
            refine J_nm (fun z1 hz1 => ?_)
            have hz1r : z1 = 2 * tw + b := by omega
            refine J_istore (pc1 := 43) (L1 := [some (.ref t), some (.int (iI tw)), some (.int (iI o)), some (.int (iI f)), some (.int (iI b)), some (.int (iI z1)), none]) dX8_timeAt_41 rfl (by decide) rfl rfl ?_
            refine J_iload (pc1 := 45) rfl dX8_timeAt_43 rfl ?_
            refine J_aload_n (pc1 := 46) rfl (i := 0) rfl dX8_timeAt_45 rfl ?_
            refine J_get (pc1 := 49) (j := 4) inUX8 (ci := 8) rfl (by decide) lf_X8_31 dX8_timeAt_46 rfl T.1 rfl ?_
            refine J_alenI (pc1 := 50) dX8_timeAt_49 rfl T.2.1 ?_
            refine J_imul (pc1 := 51) dX8_timeAt_50 rfl ?_
            refine J_aload_n (pc1 := 52) rfl (i := 0) rfl dX8_timeAt_51 rfl ?_
            refine J_get (pc1 := 55) (j := 2) inUX8 (ci := 8) rfl (by decide) lf_X8_18 dX8_timeAt_52 rfl T.1 rfl ?_
            refine J_if_eq (pc1 := 58) (tgt := 62) (by omega) (by omega) dX8_timeAt_55 rfl rfl (fun h6 => ?_) (fun h6 => ?_)
            · refine J_iload_n (pc1 := 63) rfl (i := 2) rfl dX8_timeAt_62 rfl ?_
              refine J_aload_n (pc1 := 64) rfl (i := 0) rfl dX8_timeAt_63 rfl ?_
              refine J_get (pc1 := 67) (j := 3) inUX8 (ci := 8) rfl (by decide) lf_X8_22 dX8_timeAt_64 rfl T.1 rfl ?_
              refine J_iconst (pc1 := 68) dX8_timeAt_67 rfl ?_
              refine J_iadd (pc1 := 69) dX8_timeAt_68 rfl ?_
              refine J_imul (pc1 := 70) dX8_timeAt_69 rfl ?_
              refine J_iload_n (pc1 := 71) rfl (i := 3) rfl dX8_timeAt_70 rfl ?_
              refine J_iadd (pc1 := 72) dX8_timeAt_71 rfl ?_
              refine J_iadd (pc1 := 73) dX8_timeAt_72 rfl ?_
              refine J_nm (fun z2 hz2 => ?_)
              have hix : z2 = ixF ps top w tw o f b := by
                rw [hz2]
                unfold ixF spF
                first | rw [if_pos (by omega), hz1r] | rw [if_neg (by omega), hz1r]
              obtain ⟨i1, i2⟩ := ix_b (b := b) T.2.2.2.2.2 hv hb
              rw [← hix] at i1 i2
              refine J_istore (pc1 := 75) (L1 := [some (.ref t), some (.int (iI tw)), some (.int (iI o)), some (.int (iI f)), some (.int (iI b)), some (.int (iI z1)), some (.int (iI z2))]) dX8_timeAt_73 rfl (by decide) rfl rfl ?_
              refine J_iload (pc1 := 77) rfl dX8_timeAt_75 rfl ?_
              refine J_if_lt (pc1 := 80) (tgt := 100) (by omega) (by omega) dX8_timeAt_77 rfl rfl (fun h7 => ?_) (fun h7 => ?_)
              · omega
              · refine J_iload (pc1 := 82) rfl dX8_timeAt_80 rfl ?_
                refine J_aload_n (pc1 := 83) rfl (i := 0) rfl dX8_timeAt_82 rfl ?_
                refine J_get (pc1 := 86) (j := 6) inUX8 (ci := 8) rfl (by decide) lf_X8_38 dX8_timeAt_83 rfl T.1 rfl ?_
                refine J_alenI (pc1 := 87) dX8_timeAt_86 rfl T.2.2.2.1 ?_
                refine J_icmp_ge (pc1 := 90) (tgt := 100) (by omega) (by omega) (by omega) (by omega) dX8_timeAt_87 rfl rfl (fun h8 => ?_) (fun h8 => ?_)
                · omega
                · refine J_aload_n (pc1 := 91) rfl (i := 0) rfl dX8_timeAt_90 rfl ?_
                  refine J_get (pc1 := 94) (j := 6) inUX8 (ci := 8) rfl (by decide) lf_X8_38 dX8_timeAt_91 rfl T.1 rfl ?_
                  refine J_iload (pc1 := 96) rfl dX8_timeAt_94 rfl ?_
                  refine J_iald (pc1 := 97) dX8_timeAt_96 rfl T.2.2.2.1 (by omega) (by omega) (by omega) ?_
                  refine J_goto (tgt := 102) dX8_timeAt_97 rfl ?_
                  exact J_iret rfl rfl dX8_timeAt_102 (Nat.le_refl _) (Nat.le_refl _) (kI_mk (by rw [hix]))
            · refine J_iload_n (pc1 := 59) rfl (i := 2) rfl dX8_timeAt_58 rfl ?_
              refine J_goto (tgt := 72) dX8_timeAt_59 rfl ?_
              refine J_iadd (pc1 := 73) dX8_timeAt_72 rfl ?_
              refine J_nm (fun z3 hz3 => ?_)
              have hix : z3 = ixF ps top w tw o f b := by
                rw [hz3]
                unfold ixF spF
                first | rw [if_pos (by omega), hz1r] | rw [if_neg (by omega), hz1r]
              obtain ⟨i1, i2⟩ := ix_b (b := b) T.2.2.2.2.2 hv hb
              rw [← hix] at i1 i2
              refine J_istore (pc1 := 75) (L1 := [some (.ref t), some (.int (iI tw)), some (.int (iI o)), some (.int (iI f)), some (.int (iI b)), some (.int (iI z1)), some (.int (iI z3))]) dX8_timeAt_73 rfl (by decide) rfl rfl ?_
              refine J_iload (pc1 := 77) rfl dX8_timeAt_75 rfl ?_
              refine J_if_lt (pc1 := 80) (tgt := 100) (by omega) (by omega) dX8_timeAt_77 rfl rfl (fun h9 => ?_) (fun h9 => ?_)
              · omega
              · refine J_iload (pc1 := 82) rfl dX8_timeAt_80 rfl ?_
                refine J_aload_n (pc1 := 83) rfl (i := 0) rfl dX8_timeAt_82 rfl ?_
                refine J_get (pc1 := 86) (j := 6) inUX8 (ci := 8) rfl (by decide) lf_X8_38 dX8_timeAt_83 rfl T.1 rfl ?_
                refine J_alenI (pc1 := 87) dX8_timeAt_86 rfl T.2.2.2.1 ?_
                refine J_icmp_ge (pc1 := 90) (tgt := 100) (by omega) (by omega) (by omega) (by omega) dX8_timeAt_87 rfl rfl (fun h10 => ?_) (fun h10 => ?_)
                · omega
                · refine J_aload_n (pc1 := 91) rfl (i := 0) rfl dX8_timeAt_90 rfl ?_
                  refine J_get (pc1 := 94) (j := 6) inUX8 (ci := 8) rfl (by decide) lf_X8_38 dX8_timeAt_91 rfl T.1 rfl ?_
                  refine J_iload (pc1 := 96) rfl dX8_timeAt_94 rfl ?_
                  refine J_iald (pc1 := 97) dX8_timeAt_96 rfl T.2.2.2.1 (by omega) (by omega) (by omega) ?_
                  refine J_goto (tgt := 102) dX8_timeAt_97 rfl ?_
                  exact J_iret rfl rfl dX8_timeAt_102 (Nat.le_refl _) (Nat.le_refl _) (kI_mk (by rw [hix]))
          · refine J_iconst (pc1 := 36) dX8_timeAt_35 rfl ?_
            refine J_goto (tgt := 40) dX8_timeAt_36 rfl ?_
            refine J_iadd (pc1 := 41) dX8_timeAt_40 rfl ?_
            refine J_nm (fun z4 hz4 => ?_)
            have hz4r : z4 = 2 * tw + b := by omega
            refine J_istore (pc1 := 43) (L1 := [some (.ref t), some (.int (iI tw)), some (.int (iI o)), some (.int (iI f)), some (.int (iI b)), some (.int (iI z4)), none]) dX8_timeAt_41 rfl (by decide) rfl rfl ?_
            refine J_iload (pc1 := 45) rfl dX8_timeAt_43 rfl ?_
            refine J_aload_n (pc1 := 46) rfl (i := 0) rfl dX8_timeAt_45 rfl ?_
            refine J_get (pc1 := 49) (j := 4) inUX8 (ci := 8) rfl (by decide) lf_X8_31 dX8_timeAt_46 rfl T.1 rfl ?_
            refine J_alenI (pc1 := 50) dX8_timeAt_49 rfl T.2.1 ?_
            refine J_imul (pc1 := 51) dX8_timeAt_50 rfl ?_
            refine J_aload_n (pc1 := 52) rfl (i := 0) rfl dX8_timeAt_51 rfl ?_
            refine J_get (pc1 := 55) (j := 2) inUX8 (ci := 8) rfl (by decide) lf_X8_18 dX8_timeAt_52 rfl T.1 rfl ?_
            refine J_if_eq (pc1 := 58) (tgt := 62) (by omega) (by omega) dX8_timeAt_55 rfl rfl (fun h11 => ?_) (fun h11 => ?_)
            · refine J_iload_n (pc1 := 63) rfl (i := 2) rfl dX8_timeAt_62 rfl ?_
              refine J_aload_n (pc1 := 64) rfl (i := 0) rfl dX8_timeAt_63 rfl ?_
              refine J_get (pc1 := 67) (j := 3) inUX8 (ci := 8) rfl (by decide) lf_X8_22 dX8_timeAt_64 rfl T.1 rfl ?_
              refine J_iconst (pc1 := 68) dX8_timeAt_67 rfl ?_
              refine J_iadd (pc1 := 69) dX8_timeAt_68 rfl ?_
              refine J_imul (pc1 := 70) dX8_timeAt_69 rfl ?_
              refine J_iload_n (pc1 := 71) rfl (i := 3) rfl dX8_timeAt_70 rfl ?_
              refine J_iadd (pc1 := 72) dX8_timeAt_71 rfl ?_
              refine J_iadd (pc1 := 73) dX8_timeAt_72 rfl ?_
              refine J_nm (fun z5 hz5 => ?_)
              have hix : z5 = ixF ps top w tw o f b := by
                rw [hz5]
                unfold ixF spF
                first | rw [if_pos (by omega), hz4r] | rw [if_neg (by omega), hz4r]
              obtain ⟨i1, i2⟩ := ix_b (b := b) T.2.2.2.2.2 hv hb
              rw [← hix] at i1 i2
              refine J_istore (pc1 := 75) (L1 := [some (.ref t), some (.int (iI tw)), some (.int (iI o)), some (.int (iI f)), some (.int (iI b)), some (.int (iI z4)), some (.int (iI z5))]) dX8_timeAt_73 rfl (by decide) rfl rfl ?_
              refine J_iload (pc1 := 77) rfl dX8_timeAt_75 rfl ?_
              refine J_if_lt (pc1 := 80) (tgt := 100) (by omega) (by omega) dX8_timeAt_77 rfl rfl (fun h12 => ?_) (fun h12 => ?_)
              · omega
              · refine J_iload (pc1 := 82) rfl dX8_timeAt_80 rfl ?_
                refine J_aload_n (pc1 := 83) rfl (i := 0) rfl dX8_timeAt_82 rfl ?_
                refine J_get (pc1 := 86) (j := 6) inUX8 (ci := 8) rfl (by decide) lf_X8_38 dX8_timeAt_83 rfl T.1 rfl ?_
                refine J_alenI (pc1 := 87) dX8_timeAt_86 rfl T.2.2.2.1 ?_
                refine J_icmp_ge (pc1 := 90) (tgt := 100) (by omega) (by omega) (by omega) (by omega) dX8_timeAt_87 rfl rfl (fun h13 => ?_) (fun h13 => ?_)
                · omega
                · refine J_aload_n (pc1 := 91) rfl (i := 0) rfl dX8_timeAt_90 rfl ?_
                  refine J_get (pc1 := 94) (j := 6) inUX8 (ci := 8) rfl (by decide) lf_X8_38 dX8_timeAt_91 rfl T.1 rfl ?_
                  refine J_iload (pc1 := 96) rfl dX8_timeAt_94 rfl ?_
                  refine J_iald (pc1 := 97) dX8_timeAt_96 rfl T.2.2.2.1 (by omega) (by omega) (by omega) ?_
                  refine J_goto (tgt := 102) dX8_timeAt_97 rfl ?_
                  exact J_iret rfl rfl dX8_timeAt_102 (Nat.le_refl _) (Nat.le_refl _) (kI_mk (by rw [hix]))
            · refine J_iload_n (pc1 := 59) rfl (i := 2) rfl dX8_timeAt_58 rfl ?_
              refine J_goto (tgt := 72) dX8_timeAt_59 rfl ?_
              refine J_iadd (pc1 := 73) dX8_timeAt_72 rfl ?_
              refine J_nm (fun z6 hz6 => ?_)
              have hix : z6 = ixF ps top w tw o f b := by
                rw [hz6]
                unfold ixF spF
                first | rw [if_pos (by omega), hz4r] | rw [if_neg (by omega), hz4r]
              obtain ⟨i1, i2⟩ := ix_b (b := b) T.2.2.2.2.2 hv hb
              rw [← hix] at i1 i2
              refine J_istore (pc1 := 75) (L1 := [some (.ref t), some (.int (iI tw)), some (.int (iI o)), some (.int (iI f)), some (.int (iI b)), some (.int (iI z4)), some (.int (iI z6))]) dX8_timeAt_73 rfl (by decide) rfl rfl ?_
              refine J_iload (pc1 := 77) rfl dX8_timeAt_75 rfl ?_
              refine J_if_lt (pc1 := 80) (tgt := 100) (by omega) (by omega) dX8_timeAt_77 rfl rfl (fun h14 => ?_) (fun h14 => ?_)
              · omega
              · refine J_iload (pc1 := 82) rfl dX8_timeAt_80 rfl ?_
                refine J_aload_n (pc1 := 83) rfl (i := 0) rfl dX8_timeAt_82 rfl ?_
                refine J_get (pc1 := 86) (j := 6) inUX8 (ci := 8) rfl (by decide) lf_X8_38 dX8_timeAt_83 rfl T.1 rfl ?_
                refine J_alenI (pc1 := 87) dX8_timeAt_86 rfl T.2.2.2.1 ?_
                refine J_icmp_ge (pc1 := 90) (tgt := 100) (by omega) (by omega) (by omega) (by omega) dX8_timeAt_87 rfl rfl (fun h15 => ?_) (fun h15 => ?_)
                · omega
                · refine J_aload_n (pc1 := 91) rfl (i := 0) rfl dX8_timeAt_90 rfl ?_
                  refine J_get (pc1 := 94) (j := 6) inUX8 (ci := 8) rfl (by decide) lf_X8_38 dX8_timeAt_91 rfl T.1 rfl ?_
                  refine J_iload (pc1 := 96) rfl dX8_timeAt_94 rfl ?_
                  refine J_iald (pc1 := 97) dX8_timeAt_96 rfl T.2.2.2.1 (by omega) (by omega) (by omega) ?_
                  refine J_goto (tgt := 102) dX8_timeAt_97 rfl ?_
                  exact J_iret rfl rfl dX8_timeAt_102 (Nat.le_refl _) (Nat.le_refl _) (kI_mk (by rw [hix]))
        · omega
set_option maxHeartbeats 400000 in
set_option maxRecDepth 20000 in
theorem c_X8_taken {S : pS} {t ow fo tm w n : Nat} {E ti ps top : Int} {tg : Int → Int} (T : TbS S t E ti ps top ow fo tm w n tg) {left tw o f b : Int} (hv : vd E ps top tw o f) (hb : b = 0 ∨ b = 1) (hl : 0 ≤ left ∧ left ≤ 100) (ht : 0 < tw) {p : Int} (hp : 0 ≤ p ∧ p ≤ o) : Ct yX8_taken cX8_taken 8 (Option.some FieldType.boolean) 1 0 0 [.ref t, .int (iI left), .int (iI tw), .int (iI o), .int (iI f), .int (iI p), .int (iI b)] S (kI (bC (tkP ps (PL ps top w tg left) tw o f p b)) S) := by
  obtain ⟨n1, n2, n3, n4, n5, n6, n7⟩ := T.2.2.2.2.2
  obtain ⟨w1, w2, w3, w4, w5, w6⟩ := tbN_w T.2.2.2.2.2
  have hg := T.2.2.2.2.1
  obtain ⟨v1, v2, v3, v4, v5, v6⟩ := id hv
  refine Ct.ofJ (by decide +kernel) (Nat.le_of_ble_eq_true rfl) ?_
  refine J_L (L1 := [some (.ref t), some (.int (iI left)), some (.int (iI tw)), some (.int (iI o)), some (.int (iI f)), some (.int (iI p)), some (.int (iI b)), none]) rfl ?_
  refine J_aload_n (pc1 := 1) rfl (i := 0) rfl dX8_taken_0 rfl ?_
  refine J_get (pc1 := 4) (j := 2) inUX8 (ci := 8) rfl (by decide) lf_X8_18 dX8_taken_1 rfl T.1 rfl ?_
  refine J_if_eq (pc1 := 7) (tgt := 12) (by omega) (by omega) dX8_taken_4 rfl rfl (fun h1 => ?_) (fun h1 => ?_)
  · refine J_iconst (pc1 := 13) dX8_taken_12 rfl ?_
    refine J_nm (fun z7 hz7 => ?_)
    have hz7g : z7 = gaE ps p := by
      rw [hz7]
      unfold gaE
      first | rw [if_pos (by omega)] | rw [if_neg (by omega)]
    refine J_istore (pc1 := 15) (L1 := [some (.ref t), some (.int (iI left)), some (.int (iI tw)), some (.int (iI o)), some (.int (iI f)), some (.int (iI p)), some (.int (iI b)), some (.int (iI z7))]) dX8_taken_13 rfl (by decide) rfl rfl ?_
    refine J_aload_n (pc1 := 16) rfl (i := 0) rfl dX8_taken_15 rfl ?_
    refine J_iload_n (pc1 := 17) rfl (i := 2) rfl dX8_taken_16 rfl ?_
    refine J_iconst (pc1 := 18) dX8_taken_17 rfl ?_
    refine J_isub (pc1 := 19) dX8_taken_18 rfl ?_
    refine J_iload_n (pc1 := 20) rfl (i := 3) rfl dX8_taken_19 rfl ?_
    refine J_iload (pc1 := 22) rfl dX8_taken_20 rfl ?_
    refine J_isub (pc1 := 23) dX8_taken_22 rfl ?_
    refine J_iload (pc1 := 25) rfl dX8_taken_23 rfl ?_
    refine J_iload (pc1 := 27) rfl dX8_taken_25 rfl ?_
    refine J_iadd (pc1 := 28) dX8_taken_27 rfl ?_
    refine J_iload (pc1 := 30) rfl dX8_taken_28 rfl ?_
    have hv2 := vd_tk n3 hv (by omega) hp.1 hp.2
    rw [← hz7g] at hv2
    refine J_callVI (pc1 := 33) (As := [.int (iI (tw - 1)), .int (iI (o - p)), .int (iI (f + z7)), .int (iI b)]) gv_X8_62 yv_X8_timeAt rfl (c_X8_timeAt (tw := tw - 1) (o := o - p) (f := f + z7) (b := b) T (hv2) hb) dX8_taken_30 rfl T.1 rfl rfl (by omega) (by decide) (Nat.zero_le _) (Nat.zero_le _) (Nat.le_of_ble_eq_true rfl) ?_
    have h9 := hg (ixF ps top w (tw - 1) (o - p) (f + z7) b )
    refine J_iload_n (pc1 := 34) rfl (i := 1) rfl dX8_taken_33 rfl ?_
    refine J_icmp_gt (pc1 := 37) (tgt := 41) (by omega) (by omega) (by omega) (by omega) dX8_taken_34 rfl rfl (fun h2 => ?_) (fun h2 => ?_)
    · refine J_iconst (pc1 := 42) dX8_taken_41 rfl ?_
      exact J_iret rfl rfl dX8_taken_42 (Nat.le_refl _) (Nat.le_refl _) (kI_mk (by unfold tkP PL; rw [← hz7g]; first | exact (bC_t (by omega)).symm | exact (bC_f (by omega)).symm))
    · refine J_iconst (pc1 := 38) dX8_taken_37 rfl ?_
      refine J_goto (tgt := 42) dX8_taken_38 rfl ?_
      exact J_iret rfl rfl dX8_taken_42 (Nat.le_refl _) (Nat.le_refl _) (kI_mk (by unfold tkP PL; rw [← hz7g]; first | exact (bC_t (by omega)).symm | exact (bC_f (by omega)).symm))
  · refine J_iload (pc1 := 9) rfl dX8_taken_7 rfl ?_
    refine J_goto (tgt := 13) dX8_taken_9 rfl ?_
    refine J_nm (fun z8 hz8 => ?_)
    have hz8g : z8 = gaE ps p := by
      rw [hz8]
      unfold gaE
      first | rw [if_pos (by omega)] | rw [if_neg (by omega)]
    refine J_istore (pc1 := 15) (L1 := [some (.ref t), some (.int (iI left)), some (.int (iI tw)), some (.int (iI o)), some (.int (iI f)), some (.int (iI p)), some (.int (iI b)), some (.int (iI z8))]) dX8_taken_13 rfl (by decide) rfl rfl ?_
    refine J_aload_n (pc1 := 16) rfl (i := 0) rfl dX8_taken_15 rfl ?_
    refine J_iload_n (pc1 := 17) rfl (i := 2) rfl dX8_taken_16 rfl ?_
    refine J_iconst (pc1 := 18) dX8_taken_17 rfl ?_
    refine J_isub (pc1 := 19) dX8_taken_18 rfl ?_
    refine J_iload_n (pc1 := 20) rfl (i := 3) rfl dX8_taken_19 rfl ?_
    refine J_iload (pc1 := 22) rfl dX8_taken_20 rfl ?_
    refine J_isub (pc1 := 23) dX8_taken_22 rfl ?_
    refine J_iload (pc1 := 25) rfl dX8_taken_23 rfl ?_
    refine J_iload (pc1 := 27) rfl dX8_taken_25 rfl ?_
    refine J_iadd (pc1 := 28) dX8_taken_27 rfl ?_
    refine J_iload (pc1 := 30) rfl dX8_taken_28 rfl ?_
    have hv2 := vd_tk n3 hv (by omega) hp.1 hp.2
    rw [← hz8g] at hv2
    refine J_callVI (pc1 := 33) (As := [.int (iI (tw - 1)), .int (iI (o - p)), .int (iI (f + z8)), .int (iI b)]) gv_X8_62 yv_X8_timeAt rfl (c_X8_timeAt (tw := tw - 1) (o := o - p) (f := f + z8) (b := b) T (hv2) hb) dX8_taken_30 rfl T.1 rfl rfl (by omega) (by decide) (Nat.zero_le _) (Nat.zero_le _) (Nat.le_of_ble_eq_true rfl) ?_
    have h9 := hg (ixF ps top w (tw - 1) (o - p) (f + z8) b )
    refine J_iload_n (pc1 := 34) rfl (i := 1) rfl dX8_taken_33 rfl ?_
    refine J_icmp_gt (pc1 := 37) (tgt := 41) (by omega) (by omega) (by omega) (by omega) dX8_taken_34 rfl rfl (fun h3 => ?_) (fun h3 => ?_)
    · refine J_iconst (pc1 := 42) dX8_taken_41 rfl ?_
      exact J_iret rfl rfl dX8_taken_42 (Nat.le_refl _) (Nat.le_refl _) (kI_mk (by unfold tkP PL; rw [← hz8g]; first | exact (bC_t (by omega)).symm | exact (bC_f (by omega)).symm))
    · refine J_iconst (pc1 := 38) dX8_taken_37 rfl ?_
      refine J_goto (tgt := 42) dX8_taken_38 rfl ?_
      exact J_iret rfl rfl dX8_taken_42 (Nat.le_refl _) (Nat.le_refl _) (kI_mk (by unfold tkP PL; rw [← hz8g]; first | exact (bC_t (by omega)).symm | exact (bC_f (by omega)).symm))
set_option maxHeartbeats 400000 in
set_option maxRecDepth 20000 in
theorem c_X8_lost {S : pS} {t ow fo tm w n : Nat} {E ti ps top : Int} {tg : Int → Int} (T : TbS S t E ti ps top ow fo tm w n tg) {left tw o f b : Int} (hv : vd E ps top tw o f) (hb : b = 0 ∨ b = 1) (hl : 0 ≤ left ∧ left ≤ 100) (ht : tw < 2 * E) {p : Int} (hp : 0 ≤ p ∧ p ≤ f) : Ct yX8_lost cX8_lost 8 (Option.some FieldType.boolean) 1 0 0 [.ref t, .int (iI left), .int (iI tw), .int (iI o), .int (iI f), .int (iI p), .int (iI b)] S (kI (bC (lsP ps (PL ps top w tg left) tw o f p b)) S) := by
  obtain ⟨n1, n2, n3, n4, n5, n6, n7⟩ := T.2.2.2.2.2
  obtain ⟨w1, w2, w3, w4, w5, w6⟩ := tbN_w T.2.2.2.2.2
  have hg := T.2.2.2.2.1
  obtain ⟨v1, v2, v3, v4, v5, v6⟩ := id hv
  refine Ct.ofJ (by decide +kernel) (Nat.le_of_ble_eq_true rfl) ?_
  refine J_L (L1 := [some (.ref t), some (.int (iI left)), some (.int (iI tw)), some (.int (iI o)), some (.int (iI f)), some (.int (iI p)), some (.int (iI b)), none]) rfl ?_
  refine J_aload_n (pc1 := 1) rfl (i := 0) rfl dX8_lost_0 rfl ?_
  refine J_get (pc1 := 4) (j := 2) inUX8 (ci := 8) rfl (by decide) lf_X8_18 dX8_lost_1 rfl T.1 rfl ?_
  refine J_if_eq (pc1 := 7) (tgt := 12) (by omega) (by omega) dX8_lost_4 rfl rfl (fun h1 => ?_) (fun h1 => ?_)
  · refine J_iconst (pc1 := 13) dX8_lost_12 rfl ?_
    refine J_nm (fun z9 hz9 => ?_)
    have hz9g : z9 = gaE ps p := by
      rw [hz9]
      unfold gaE
      first | rw [if_pos (by omega)] | rw [if_neg (by omega)]
    refine J_istore (pc1 := 15) (L1 := [some (.ref t), some (.int (iI left)), some (.int (iI tw)), some (.int (iI o)), some (.int (iI f)), some (.int (iI p)), some (.int (iI b)), some (.int (iI z9))]) dX8_lost_13 rfl (by decide) rfl rfl ?_
    refine J_aload_n (pc1 := 16) rfl (i := 0) rfl dX8_lost_15 rfl ?_
    refine J_iload_n (pc1 := 17) rfl (i := 2) rfl dX8_lost_16 rfl ?_
    refine J_iconst (pc1 := 18) dX8_lost_17 rfl ?_
    refine J_iadd (pc1 := 19) dX8_lost_18 rfl ?_
    refine J_iload_n (pc1 := 20) rfl (i := 3) rfl dX8_lost_19 rfl ?_
    refine J_iload (pc1 := 22) rfl dX8_lost_20 rfl ?_
    refine J_iadd (pc1 := 23) dX8_lost_22 rfl ?_
    refine J_iload (pc1 := 25) rfl dX8_lost_23 rfl ?_
    refine J_iload (pc1 := 27) rfl dX8_lost_25 rfl ?_
    refine J_isub (pc1 := 28) dX8_lost_27 rfl ?_
    refine J_iload (pc1 := 30) rfl dX8_lost_28 rfl ?_
    have hv2 := vd_ls n3 hv (by omega) hp.1 hp.2
    rw [← hz9g] at hv2
    refine J_callVI (pc1 := 33) (As := [.int (iI (tw + 1)), .int (iI (o + z9)), .int (iI (f - p)), .int (iI b)]) gv_X8_62 yv_X8_timeAt rfl (c_X8_timeAt (tw := tw + 1) (o := o + z9) (f := f - p) (b := b) T (hv2) hb) dX8_lost_30 rfl T.1 rfl rfl (by omega) (by decide) (Nat.zero_le _) (Nat.zero_le _) (Nat.le_of_ble_eq_true rfl) ?_
    have h9 := hg (ixF ps top w (tw + 1) (o + z9) (f - p) b )
    refine J_iload_n (pc1 := 34) rfl (i := 1) rfl dX8_lost_33 rfl ?_
    refine J_icmp_gt (pc1 := 37) (tgt := 41) (by omega) (by omega) (by omega) (by omega) dX8_lost_34 rfl rfl (fun h2 => ?_) (fun h2 => ?_)
    · refine J_iconst (pc1 := 42) dX8_lost_41 rfl ?_
      exact J_iret rfl rfl dX8_lost_42 (Nat.le_refl _) (Nat.le_refl _) (kI_mk (by unfold lsP PL; rw [← hz9g]; first | exact (bC_t (by omega)).symm | exact (bC_f (by omega)).symm))
    · refine J_iconst (pc1 := 38) dX8_lost_37 rfl ?_
      refine J_goto (tgt := 42) dX8_lost_38 rfl ?_
      exact J_iret rfl rfl dX8_lost_42 (Nat.le_refl _) (Nat.le_refl _) (kI_mk (by unfold lsP PL; rw [← hz9g]; first | exact (bC_t (by omega)).symm | exact (bC_f (by omega)).symm))
  · refine J_iload (pc1 := 9) rfl dX8_lost_7 rfl ?_
    refine J_goto (tgt := 13) dX8_lost_9 rfl ?_
    refine J_nm (fun z10 hz10 => ?_)
    have hz10g : z10 = gaE ps p := by
      rw [hz10]
      unfold gaE
      first | rw [if_pos (by omega)] | rw [if_neg (by omega)]
    refine J_istore (pc1 := 15) (L1 := [some (.ref t), some (.int (iI left)), some (.int (iI tw)), some (.int (iI o)), some (.int (iI f)), some (.int (iI p)), some (.int (iI b)), some (.int (iI z10))]) dX8_lost_13 rfl (by decide) rfl rfl ?_
    refine J_aload_n (pc1 := 16) rfl (i := 0) rfl dX8_lost_15 rfl ?_
    refine J_iload_n (pc1 := 17) rfl (i := 2) rfl dX8_lost_16 rfl ?_
    refine J_iconst (pc1 := 18) dX8_lost_17 rfl ?_
    refine J_iadd (pc1 := 19) dX8_lost_18 rfl ?_
    refine J_iload_n (pc1 := 20) rfl (i := 3) rfl dX8_lost_19 rfl ?_
    refine J_iload (pc1 := 22) rfl dX8_lost_20 rfl ?_
    refine J_iadd (pc1 := 23) dX8_lost_22 rfl ?_
    refine J_iload (pc1 := 25) rfl dX8_lost_23 rfl ?_
    refine J_iload (pc1 := 27) rfl dX8_lost_25 rfl ?_
    refine J_isub (pc1 := 28) dX8_lost_27 rfl ?_
    refine J_iload (pc1 := 30) rfl dX8_lost_28 rfl ?_
    have hv2 := vd_ls n3 hv (by omega) hp.1 hp.2
    rw [← hz10g] at hv2
    refine J_callVI (pc1 := 33) (As := [.int (iI (tw + 1)), .int (iI (o + z10)), .int (iI (f - p)), .int (iI b)]) gv_X8_62 yv_X8_timeAt rfl (c_X8_timeAt (tw := tw + 1) (o := o + z10) (f := f - p) (b := b) T (hv2) hb) dX8_lost_30 rfl T.1 rfl rfl (by omega) (by decide) (Nat.zero_le _) (Nat.zero_le _) (Nat.le_of_ble_eq_true rfl) ?_
    have h9 := hg (ixF ps top w (tw + 1) (o + z10) (f - p) b )
    refine J_iload_n (pc1 := 34) rfl (i := 1) rfl dX8_lost_33 rfl ?_
    refine J_icmp_gt (pc1 := 37) (tgt := 41) (by omega) (by omega) (by omega) (by omega) dX8_lost_34 rfl rfl (fun h3 => ?_) (fun h3 => ?_)
    · refine J_iconst (pc1 := 42) dX8_lost_41 rfl ?_
      exact J_iret rfl rfl dX8_lost_42 (Nat.le_refl _) (Nat.le_refl _) (kI_mk (by unfold lsP PL; rw [← hz10g]; first | exact (bC_t (by omega)).symm | exact (bC_f (by omega)).symm))
    · refine J_iconst (pc1 := 38) dX8_lost_37 rfl ?_
      refine J_goto (tgt := 42) dX8_lost_38 rfl ?_
      exact J_iret rfl rfl dX8_lost_42 (Nat.le_refl _) (Nat.le_refl _) (kI_mk (by unfold lsP PL; rw [← hz10g]; first | exact (bC_t (by omega)).symm | exact (bC_f (by omega)).symm))
set_option maxHeartbeats 400000 in
set_option maxRecDepth 20000 in
theorem c_X8_neverTakes {S : pS} {t ow fo tm w n : Nat} {E ti ps top : Int} {tg : Int → Int} (T : TbS S t E ti ps top ow fo tm w n tg) {p : Int} (hp : -1000 ≤ p ∧ p ≤ 1000) : Ct yX8_neverTakes cX8_neverTakes 2 (Option.some FieldType.boolean) 0 0 0 [.ref t, .int (iI p)] S (kI (bC (p = 0 ∧ ti = 1)) S) := by
  obtain ⟨n1, n2, n3, n4, n5, n6, n7⟩ := T.2.2.2.2.2
  obtain ⟨w1, w2, w3, w4, w5, w6⟩ := tbN_w T.2.2.2.2.2
  have hg := T.2.2.2.2.1
  refine Ct.ofJ (by decide +kernel) (Nat.le_of_ble_eq_true rfl) ?_
  refine J_L (L1 := [some (.ref t), some (.int (iI p))]) rfl ?_
  refine J_iload_n (pc1 := 1) rfl (i := 1) rfl dX8_neverTakes_0 rfl ?_
  refine J_if_ne (pc1 := 4) (tgt := 16) (by omega) (by omega) dX8_neverTakes_1 rfl rfl (fun h1 => ?_) (fun h1 => ?_)
  · refine J_iconst (pc1 := 17) dX8_neverTakes_16 rfl ?_
    exact J_iret rfl rfl dX8_neverTakes_17 (Nat.le_refl _) (Nat.le_refl _) (kI_mk (by first | exact (bC_t (by omega)).symm | exact (bC_f (by omega)).symm))
  · refine J_aload_n (pc1 := 5) rfl (i := 0) rfl dX8_neverTakes_4 rfl ?_
    refine J_get (pc1 := 8) (j := 1) inUX8 (ci := 8) rfl (by decide) lf_X8_15 dX8_neverTakes_5 rfl T.1 rfl ?_
    refine J_iconst (pc1 := 9) dX8_neverTakes_8 rfl ?_
    refine J_icmp_ne (pc1 := 12) (tgt := 16) (by omega) (by omega) (by decide) (by decide) dX8_neverTakes_9 rfl rfl (fun h2 => ?_) (fun h2 => ?_)
    · refine J_iconst (pc1 := 17) dX8_neverTakes_16 rfl ?_
      exact J_iret rfl rfl dX8_neverTakes_17 (Nat.le_refl _) (Nat.le_refl _) (kI_mk (by first | exact (bC_t (by omega)).symm | exact (bC_f (by omega)).symm))
    · refine J_iconst (pc1 := 13) dX8_neverTakes_12 rfl ?_
      refine J_goto (tgt := 17) dX8_neverTakes_13 rfl ?_
      exact J_iret rfl rfl dX8_neverTakes_17 (Nat.le_refl _) (Nat.le_refl _) (kI_mk (by first | exact (bC_t (by omega)).symm | exact (bC_f (by omega)).symm))
end
section
set_option maxHeartbeats 1000000 in
set_option maxRecDepth 20000 in
theorem c_X8_bidForces {S : pS} {t ow fo tm w n : Nat} {E ti ps top : Int} {tg : Int → Int} (T : TbS S t E ti ps top ow fo tm w n tg) {left tw o f : Int} (hv : vd E ps top tw o f) (hl : 0 ≤ left ∧ left ≤ 100) (ht : 0 < tw ∧ tw < 2 * E) : Ct yX8_bidForces cX8_bidForces 7 (Option.some FieldType.boolean) 2 0 0 [.ref t, .int (iI left), .int (iI tw), .int (iI o), .int (iI f)] S (kI (bC (bidP ti ps (PL ps top w tg left) tw o f)) S) := by
  obtain ⟨n1, n2, n3, n4, n5, n6, n7⟩ := T.2.2.2.2.2
  obtain ⟨w1, w2, w3, w4, w5, w6⟩ := tbN_w T.2.2.2.2.2
  have hg := T.2.2.2.2.1
  obtain ⟨v1, v2, v3, v4, v5, v6⟩ := id hv
  have vt : o ≤ top ∧ f ≤ top := by omega
  refine Ct.ofJ (by decide +kernel) (Nat.le_of_ble_eq_true rfl) ?_
  refine J_L (L1 := [some (.ref t), some (.int (iI left)), some (.int (iI tw)), some (.int (iI o)), some (.int (iI f)), none, none]) rfl ?_
  have hmx : ∀ x : Int, 0 ≤ mx 0 (x + ti) ∧ x + ti ≤ mx 0 (x + ti) ∧ (mx 0 (x + ti) = 0 ∨ mx 0 (x + ti) = x + ti) := fun x => by unfold mx; split <;> omega
  have LP2 : ∀ (x : Int), -1 ≤ x → x ≤ f → (∀ a, x < a → a ≤ f → lsP ps (PL ps top w tg left) tw o f a 0) → (x = -1 ∨ ¬ lsP ps (PL ps top w tg left) tw o f x 0) → ∀ (n : Nat) (y : Int), mx 0 (x + ti) ≤ y → (∀ e, mx 0 (x + ti) ≤ e → e < y → ¬ ((e = 0 ∧ ti = 1) ∨ tkP ps (PL ps top w tg left) tw o f e 0)) → y ≤ 100 → 100 - y < n → Jd yX8_bidForces cX8_bidForces 7 (Option.some FieldType.boolean) 2 0 0 (kI (bC (bidP ti ps (PL ps top w tg left) tw o f)) S) 0 0 S 43 [some (.ref t), some (.int (iI left)), some (.int (iI tw)), some (.int (iI o)), some (.int (iI f)), some (.int (iI x)), some (.int (iI y))] [] := by
    intro x x1 x2 x3 x4 n
    have hq := hmx x
    induction n with
    | zero => intro y y1 y3 y4 y5; omega
    | succ n ih =>
      intro y y1 y3 y4 y5
      refine J_iload (pc1 := 45) rfl dX8_bidForces_43 rfl ?_
      refine J_iload_n (pc1 := 46) rfl (i := 3) rfl dX8_bidForces_45 rfl ?_
      refine J_icmp_gt (pc1 := 49) (tgt := 81) (by omega) (by omega) (by omega) (by omega) dX8_bidForces_46 rfl rfl (fun h1 => ?_) (fun h1 => ?_)
      · refine J_iconst (pc1 := 82) dX8_bidForces_81 rfl ?_
        exact J_iret rfl rfl dX8_bidForces_82 (Nat.le_refl _) (Nat.le_refl _) (kI_mk (bC_f (fun z => by obtain ⟨e, e1, e2⟩ := (bid_eq n2 v4 ⟨x1, x2⟩ x3 x4).mpr z; exact y3 e e1.1 (by omega) e2)).symm)
      · refine J_aload_n (pc1 := 50) rfl (i := 0) rfl dX8_bidForces_49 rfl ?_
        refine J_iload (pc1 := 52) rfl dX8_bidForces_50 rfl ?_
        refine J_callVI (pc1 := 55) (As := [.int (iI y)]) gv_X8_56 yv_X8_neverTakes rfl (c_X8_neverTakes T (p := y) (by omega)) dX8_bidForces_52 rfl T.1 rfl rfl (by omega) (by decide) (Nat.zero_le _) (Nat.zero_le _) (Nat.le_of_ble_eq_true rfl) ?_
        refine J_if_ne (pc1 := 58) (tgt := 73) (bC_lo _) (bC_hi _) dX8_bidForces_55 rfl rfl (fun h2 => ?_) (fun h2 => ?_)
        · refine J_iconst (pc1 := 74) dX8_bidForces_73 rfl ?_
          exact J_iret rfl rfl dX8_bidForces_74 (Nat.le_refl _) (Nat.le_refl _) (kI_mk (by first | exact (bC_t ((bid_eq n2 v4 ⟨x1, x2⟩ x3 x4).mp ⟨y, ⟨y1, by omega⟩, Or.inl (bC_1 (by assumption))⟩)).symm | exact (bC_t ((bid_eq n2 v4 ⟨x1, x2⟩ x3 x4).mp ⟨y, ⟨y1, by omega⟩, Or.inr (bC_1 (by assumption))⟩)).symm))
        · refine J_aload_n (pc1 := 59) rfl (i := 0) rfl dX8_bidForces_58 rfl ?_
          refine J_iload_n (pc1 := 60) rfl (i := 1) rfl dX8_bidForces_59 rfl ?_
          refine J_iload_n (pc1 := 61) rfl (i := 2) rfl dX8_bidForces_60 rfl ?_
          refine J_iload_n (pc1 := 62) rfl (i := 3) rfl dX8_bidForces_61 rfl ?_
          refine J_iload (pc1 := 64) rfl dX8_bidForces_62 rfl ?_
          refine J_iload (pc1 := 66) rfl dX8_bidForces_64 rfl ?_
          refine J_iconst (pc1 := 67) dX8_bidForces_66 rfl ?_
          refine J_callVI (pc1 := 70) (As := [.int (iI left), .int (iI tw), .int (iI o), .int (iI f), .int (iI y), .int (iI 0)]) gv_X8_59 yv_X8_taken rfl (c_X8_taken T (b := 0) (p := y) hv (by omega) hl (by omega) (by omega)) dX8_bidForces_67 rfl T.1 rfl rfl (by omega) (by decide) (Nat.zero_le _) (Nat.zero_le _) (Nat.le_of_ble_eq_true rfl) ?_
          refine J_if_eq (pc1 := 73) (tgt := 75) (bC_lo _) (bC_hi _) dX8_bidForces_70 rfl rfl (fun h3 => ?_) (fun h3 => ?_)
          · refine J_iinc (pc1 := 78) (L1 := [some (.ref t), some (.int (iI left)), some (.int (iI tw)), some (.int (iI o)), some (.int (iI f)), some (.int (iI x)), some (.int (iI (y + 1)))]) dX8_bidForces_75 rfl rfl (by decide) rfl rfl ?_
            refine J_goto (tgt := 43) dX8_bidForces_78 rfl ?_
            refine ih (y + 1) (by omega) (fun e e1 e2 => ?_) (by omega) (by omega)
            rcases Classical.em (e = y) with q | q
            · subst q
              exact fun z => z.elim (bC_0 (by assumption)) (bC_0 (by assumption))
            · exact y3 e e1 (by omega)
          · refine J_iconst (pc1 := 74) dX8_bidForces_73 rfl ?_
            exact J_iret rfl rfl dX8_bidForces_74 (Nat.le_refl _) (Nat.le_refl _) (kI_mk (by first | exact (bC_t ((bid_eq n2 v4 ⟨x1, x2⟩ x3 x4).mp ⟨y, ⟨y1, by omega⟩, Or.inl (bC_1 (by assumption))⟩)).symm | exact (bC_t ((bid_eq n2 v4 ⟨x1, x2⟩ x3 x4).mp ⟨y, ⟨y1, by omega⟩, Or.inr (bC_1 (by assumption))⟩)).symm))
  have LP1 : ∀ (n : Nat) (x : Int), -1 ≤ x → x ≤ f → (∀ a, x < a → a ≤ f → lsP ps (PL ps top w tg left) tw o f a 0) → x + 1 < n → Jd yX8_bidForces cX8_bidForces 7 (Option.some FieldType.boolean) 2 0 0 (kI (bC (bidP ti ps (PL ps top w tg left) tw o f)) S) 0 0 S 4 [some (.ref t), some (.int (iI left)), some (.int (iI tw)), some (.int (iI o)), some (.int (iI f)), some (.int (iI x)), none] [] := by
    intro n
    induction n with
    | zero => intro x x1 x2 x3 x5; omega
    | succ n ih =>
      intro x x1 x2 x3 x5
      have hq := hmx x
      refine J_iload (pc1 := 6) rfl dX8_bidForces_4 rfl ?_
      refine J_if_lt (pc1 := 9) (tgt := 30) (by omega) (by omega) dX8_bidForces_6 rfl rfl (fun h4 => ?_) (fun h4 => ?_)
      · refine J_iconst (pc1 := 31) dX8_bidForces_30 rfl ?_
        refine J_iload (pc1 := 33) rfl dX8_bidForces_31 rfl ?_
        refine J_aload_n (pc1 := 34) rfl (i := 0) rfl dX8_bidForces_33 rfl ?_
        refine J_get (pc1 := 37) (j := 1) inUX8 (ci := 8) rfl (by decide) lf_X8_15 dX8_bidForces_34 rfl T.1 rfl ?_
        refine J_iadd (pc1 := 38) dX8_bidForces_37 rfl ?_
        refine J_max (pc1 := 41) (by decide) (by decide) (by omega) (by omega) lm_X8_25 dX8_bidForces_38 rfl (by omega) (Nat.le_of_ble_eq_true rfl) (by omega) (by omega) ?_
        refine J_istore (pc1 := 43) (L1 := [some (.ref t), some (.int (iI left)), some (.int (iI tw)), some (.int (iI o)), some (.int (iI f)), some (.int (iI x)), some (.int (iI (mx 0 (x + ti))))]) dX8_bidForces_41 rfl (by decide) rfl rfl ?_
        exact LP2 x x1 x2 x3 (by first | exact Or.inl (by omega) | exact Or.inr (bC_0 (by assumption))) 101 (mx 0 (x + ti)) (Int.le_refl _) (fun e e1 e2 => by omega) (by omega) (by omega)
      · refine J_aload_n (pc1 := 10) rfl (i := 0) rfl dX8_bidForces_9 rfl ?_
        refine J_iload_n (pc1 := 11) rfl (i := 1) rfl dX8_bidForces_10 rfl ?_
        refine J_iload_n (pc1 := 12) rfl (i := 2) rfl dX8_bidForces_11 rfl ?_
        refine J_iload_n (pc1 := 13) rfl (i := 3) rfl dX8_bidForces_12 rfl ?_
        refine J_iload (pc1 := 15) rfl dX8_bidForces_13 rfl ?_
        refine J_iload (pc1 := 17) rfl dX8_bidForces_15 rfl ?_
        refine J_iconst (pc1 := 18) dX8_bidForces_17 rfl ?_
        refine J_callVI (pc1 := 21) (As := [.int (iI left), .int (iI tw), .int (iI o), .int (iI f), .int (iI x), .int (iI 0)]) gv_X8_52 yv_X8_lost rfl (c_X8_lost T (b := 0) (p := x) hv (by omega) hl (by omega) (by omega)) dX8_bidForces_18 rfl T.1 rfl rfl (by omega) (by decide) (Nat.zero_le _) (Nat.zero_le _) (Nat.le_of_ble_eq_true rfl) ?_
        refine J_if_eq (pc1 := 24) (tgt := 30) (bC_lo _) (bC_hi _) dX8_bidForces_21 rfl rfl (fun h5 => ?_) (fun h5 => ?_)
        · refine J_iconst (pc1 := 31) dX8_bidForces_30 rfl ?_
          refine J_iload (pc1 := 33) rfl dX8_bidForces_31 rfl ?_
          refine J_aload_n (pc1 := 34) rfl (i := 0) rfl dX8_bidForces_33 rfl ?_
          refine J_get (pc1 := 37) (j := 1) inUX8 (ci := 8) rfl (by decide) lf_X8_15 dX8_bidForces_34 rfl T.1 rfl ?_
          refine J_iadd (pc1 := 38) dX8_bidForces_37 rfl ?_
          refine J_max (pc1 := 41) (by decide) (by decide) (by omega) (by omega) lm_X8_25 dX8_bidForces_38 rfl (by omega) (Nat.le_of_ble_eq_true rfl) (by omega) (by omega) ?_
          refine J_istore (pc1 := 43) (L1 := [some (.ref t), some (.int (iI left)), some (.int (iI tw)), some (.int (iI o)), some (.int (iI f)), some (.int (iI x)), some (.int (iI (mx 0 (x + ti))))]) dX8_bidForces_41 rfl (by decide) rfl rfl ?_
          exact LP2 x x1 x2 x3 (by first | exact Or.inl (by omega) | exact Or.inr (bC_0 (by assumption))) 101 (mx 0 (x + ti)) (Int.le_refl _) (fun e e1 e2 => by omega) (by omega) (by omega)
        · refine J_iinc (pc1 := 27) (L1 := [some (.ref t), some (.int (iI left)), some (.int (iI tw)), some (.int (iI o)), some (.int (iI f)), some (.int (iI (x + (-1)))), none]) dX8_bidForces_24 rfl rfl (by decide) rfl rfl ?_
          refine J_goto (tgt := 4) dX8_bidForces_27 rfl ?_
          refine ih (x + (-1)) (by omega) (by omega) (fun a a1 a2 => ?_) (by omega)
          rcases Classical.em (a = x) with q | q
          · subst q
            exact bC_1 (by assumption)
          · exact x3 a (by omega) a2
  refine J_iload (pc1 := 2) rfl dX8_bidForces_0 rfl ?_
  refine J_istore (pc1 := 4) (L1 := [some (.ref t), some (.int (iI left)), some (.int (iI tw)), some (.int (iI o)), some (.int (iI f)), some (.int (iI f)), none]) dX8_bidForces_2 rfl (by decide) rfl rfl ?_
  exact LP1 101 f (by omega) (by omega) (fun a a1 a2 => by omega) (by omega)
set_option maxHeartbeats 1000000 in
set_option maxRecDepth 20000 in
theorem c_X8_answerForces {S : pS} {t ow fo tm w n : Nat} {E ti ps top : Int} {tg : Int → Int} (T : TbS S t E ti ps top ow fo tm w n tg) {left tw o f : Int} (hv : vd E ps top tw o f) (hl : 0 ≤ left ∧ left ≤ 100) (ht : 0 < tw ∧ tw < 2 * E) : Ct yX8_answerForces cX8_answerForces 7 (Option.some FieldType.boolean) 2 0 0 [.ref t, .int (iI left), .int (iI tw), .int (iI o), .int (iI f)] S (kI (bC (ansP ti ps (PL ps top w tg left) tw o f)) S) := by
  obtain ⟨n1, n2, n3, n4, n5, n6, n7⟩ := T.2.2.2.2.2
  obtain ⟨w1, w2, w3, w4, w5, w6⟩ := tbN_w T.2.2.2.2.2
  have hg := T.2.2.2.2.1
  obtain ⟨v1, v2, v3, v4, v5, v6⟩ := id hv
  have vt : o ≤ top ∧ f ≤ top := by omega
  refine Ct.ofJ (by decide +kernel) (Nat.le_of_ble_eq_true rfl) ?_
  refine J_L (L1 := [some (.ref t), some (.int (iI left)), some (.int (iI tw)), some (.int (iI o)), some (.int (iI f)), none, none]) rfl ?_
  have hmx : ∀ x : Int, 0 ≤ mx 0 (x + ti) ∧ x + ti ≤ mx 0 (x + ti) ∧ (mx 0 (x + ti) = 0 ∨ mx 0 (x + ti) = x + ti) := fun x => by unfold mx; split <;> omega
  have LP2 : ∀ (x : Int), -1 ≤ x → x ≤ o → (∀ a, x < a → a ≤ o → ¬ tkP ps (PL ps top w tg left) tw o f a 1) → (x = -1 ∨ tkP ps (PL ps top w tg left) tw o f x 1) → ∀ (n : Nat) (y : Int), mx 0 (x + ti) ≤ y → (∀ e, mx 0 (x + ti) ≤ e → e < y → ¬ (e = 0 ∧ ti = 1) ∧ lsP ps (PL ps top w tg left) tw o f e 1) → y ≤ 100 → 100 - y < n → Jd yX8_answerForces cX8_answerForces 7 (Option.some FieldType.boolean) 2 0 0 (kI (bC (ansP ti ps (PL ps top w tg left) tw o f)) S) 0 0 S 42 [some (.ref t), some (.int (iI left)), some (.int (iI tw)), some (.int (iI o)), some (.int (iI f)), some (.int (iI x)), some (.int (iI y))] [] := by
    intro x x1 x2 x3 x4 n
    have hq := hmx x
    induction n with
    | zero => intro y y1 y3 y4 y5; omega
    | succ n ih =>
      intro y y1 y3 y4 y5
      refine J_iload (pc1 := 44) rfl dX8_answerForces_42 rfl ?_
      refine J_iload (pc1 := 46) rfl dX8_answerForces_44 rfl ?_
      refine J_icmp_gt (pc1 := 49) (tgt := 81) (by omega) (by omega) (by omega) (by omega) dX8_answerForces_46 rfl rfl (fun h1 => ?_) (fun h1 => ?_)
      · refine J_iconst (pc1 := 82) dX8_answerForces_81 rfl ?_
        exact J_iret rfl rfl dX8_answerForces_82 (Nat.le_refl _) (Nat.le_refl _) (kI_mk (bC_t ((ans_eq n2 v3 ⟨x1, x2⟩ x3 x4).mp (fun e e1 e2 => y3 e e1 (by omega)))).symm)
      · refine J_aload_n (pc1 := 50) rfl (i := 0) rfl dX8_answerForces_49 rfl ?_
        refine J_iload (pc1 := 52) rfl dX8_answerForces_50 rfl ?_
        refine J_callVI (pc1 := 55) (As := [.int (iI y)]) gv_X8_56 yv_X8_neverTakes rfl (c_X8_neverTakes T (p := y) (by omega)) dX8_answerForces_52 rfl T.1 rfl rfl (by omega) (by decide) (Nat.zero_le _) (Nat.zero_le _) (Nat.le_of_ble_eq_true rfl) ?_
        refine J_if_ne (pc1 := 58) (tgt := 73) (bC_lo _) (bC_hi _) dX8_answerForces_55 rfl rfl (fun h2 => ?_) (fun h2 => ?_)
        · refine J_iconst (pc1 := 74) dX8_answerForces_73 rfl ?_
          exact J_iret rfl rfl dX8_answerForces_74 (Nat.le_refl _) (Nat.le_refl _) (kI_mk (by first | exact (bC_f (fun z => ((ans_eq n2 v3 ⟨x1, x2⟩ x3 x4).mpr z y y1 (by omega)).1 (bC_1 (by assumption)))).symm | exact (bC_f (fun z => bC_0 (by assumption) ((ans_eq n2 v3 ⟨x1, x2⟩ x3 x4).mpr z y y1 (by omega)).2)).symm))
        · refine J_aload_n (pc1 := 59) rfl (i := 0) rfl dX8_answerForces_58 rfl ?_
          refine J_iload_n (pc1 := 60) rfl (i := 1) rfl dX8_answerForces_59 rfl ?_
          refine J_iload_n (pc1 := 61) rfl (i := 2) rfl dX8_answerForces_60 rfl ?_
          refine J_iload_n (pc1 := 62) rfl (i := 3) rfl dX8_answerForces_61 rfl ?_
          refine J_iload (pc1 := 64) rfl dX8_answerForces_62 rfl ?_
          refine J_iload (pc1 := 66) rfl dX8_answerForces_64 rfl ?_
          refine J_iconst (pc1 := 67) dX8_answerForces_66 rfl ?_
          refine J_callVI (pc1 := 70) (As := [.int (iI left), .int (iI tw), .int (iI o), .int (iI f), .int (iI y), .int (iI 1)]) gv_X8_52 yv_X8_lost rfl (c_X8_lost T (b := 1) (p := y) hv (by omega) hl (by omega) (by omega)) dX8_answerForces_67 rfl T.1 rfl rfl (by omega) (by decide) (Nat.zero_le _) (Nat.zero_le _) (Nat.le_of_ble_eq_true rfl) ?_
          refine J_if_ne (pc1 := 73) (tgt := 75) (bC_lo _) (bC_hi _) dX8_answerForces_70 rfl rfl (fun h3 => ?_) (fun h3 => ?_)
          · refine J_iinc (pc1 := 78) (L1 := [some (.ref t), some (.int (iI left)), some (.int (iI tw)), some (.int (iI o)), some (.int (iI f)), some (.int (iI x)), some (.int (iI (y + 1)))]) dX8_answerForces_75 rfl rfl (by decide) rfl rfl ?_
            refine J_goto (tgt := 42) dX8_answerForces_78 rfl ?_
            refine ih (y + 1) (by omega) (fun e e1 e2 => ?_) (by omega) (by omega)
            rcases Classical.em (e = y) with q | q
            · subst q
              exact ⟨bC_0 (by assumption), bC_1 (by assumption)⟩
            · exact y3 e e1 (by omega)
          · refine J_iconst (pc1 := 74) dX8_answerForces_73 rfl ?_
            exact J_iret rfl rfl dX8_answerForces_74 (Nat.le_refl _) (Nat.le_refl _) (kI_mk (by first | exact (bC_f (fun z => ((ans_eq n2 v3 ⟨x1, x2⟩ x3 x4).mpr z y y1 (by omega)).1 (bC_1 (by assumption)))).symm | exact (bC_f (fun z => bC_0 (by assumption) ((ans_eq n2 v3 ⟨x1, x2⟩ x3 x4).mpr z y y1 (by omega)).2)).symm))
  have LP1 : ∀ (n : Nat) (x : Int), -1 ≤ x → x ≤ o → (∀ a, x < a → a ≤ o → ¬ tkP ps (PL ps top w tg left) tw o f a 1) → x + 1 < n → Jd yX8_answerForces cX8_answerForces 7 (Option.some FieldType.boolean) 2 0 0 (kI (bC (ansP ti ps (PL ps top w tg left) tw o f)) S) 0 0 S 3 [some (.ref t), some (.int (iI left)), some (.int (iI tw)), some (.int (iI o)), some (.int (iI f)), some (.int (iI x)), none] [] := by
    intro n
    induction n with
    | zero => intro x x1 x2 x3 x5; omega
    | succ n ih =>
      intro x x1 x2 x3 x5
      have hq := hmx x
      refine J_iload (pc1 := 5) rfl dX8_answerForces_3 rfl ?_
      refine J_if_lt (pc1 := 8) (tgt := 29) (by omega) (by omega) dX8_answerForces_5 rfl rfl (fun h4 => ?_) (fun h4 => ?_)
      · refine J_iconst (pc1 := 30) dX8_answerForces_29 rfl ?_
        refine J_iload (pc1 := 32) rfl dX8_answerForces_30 rfl ?_
        refine J_aload_n (pc1 := 33) rfl (i := 0) rfl dX8_answerForces_32 rfl ?_
        refine J_get (pc1 := 36) (j := 1) inUX8 (ci := 8) rfl (by decide) lf_X8_15 dX8_answerForces_33 rfl T.1 rfl ?_
        refine J_iadd (pc1 := 37) dX8_answerForces_36 rfl ?_
        refine J_max (pc1 := 40) (by decide) (by decide) (by omega) (by omega) lm_X8_25 dX8_answerForces_37 rfl (by omega) (Nat.le_of_ble_eq_true rfl) (by omega) (by omega) ?_
        refine J_istore (pc1 := 42) (L1 := [some (.ref t), some (.int (iI left)), some (.int (iI tw)), some (.int (iI o)), some (.int (iI f)), some (.int (iI x)), some (.int (iI (mx 0 (x + ti))))]) dX8_answerForces_40 rfl (by decide) rfl rfl ?_
        exact LP2 x x1 x2 x3 (by first | exact Or.inl (by omega) | exact Or.inr (bC_1 (by assumption))) 101 (mx 0 (x + ti)) (Int.le_refl _) (fun e e1 e2 => by omega) (by omega) (by omega)
      · refine J_aload_n (pc1 := 9) rfl (i := 0) rfl dX8_answerForces_8 rfl ?_
        refine J_iload_n (pc1 := 10) rfl (i := 1) rfl dX8_answerForces_9 rfl ?_
        refine J_iload_n (pc1 := 11) rfl (i := 2) rfl dX8_answerForces_10 rfl ?_
        refine J_iload_n (pc1 := 12) rfl (i := 3) rfl dX8_answerForces_11 rfl ?_
        refine J_iload (pc1 := 14) rfl dX8_answerForces_12 rfl ?_
        refine J_iload (pc1 := 16) rfl dX8_answerForces_14 rfl ?_
        refine J_iconst (pc1 := 17) dX8_answerForces_16 rfl ?_
        refine J_callVI (pc1 := 20) (As := [.int (iI left), .int (iI tw), .int (iI o), .int (iI f), .int (iI x), .int (iI 1)]) gv_X8_59 yv_X8_taken rfl (c_X8_taken T (b := 1) (p := x) hv (by omega) hl (by omega) (by omega)) dX8_answerForces_17 rfl T.1 rfl rfl (by omega) (by decide) (Nat.zero_le _) (Nat.zero_le _) (Nat.le_of_ble_eq_true rfl) ?_
        refine J_if_ne (pc1 := 23) (tgt := 29) (bC_lo _) (bC_hi _) dX8_answerForces_20 rfl rfl (fun h5 => ?_) (fun h5 => ?_)
        · refine J_iconst (pc1 := 30) dX8_answerForces_29 rfl ?_
          refine J_iload (pc1 := 32) rfl dX8_answerForces_30 rfl ?_
          refine J_aload_n (pc1 := 33) rfl (i := 0) rfl dX8_answerForces_32 rfl ?_
          refine J_get (pc1 := 36) (j := 1) inUX8 (ci := 8) rfl (by decide) lf_X8_15 dX8_answerForces_33 rfl T.1 rfl ?_
          refine J_iadd (pc1 := 37) dX8_answerForces_36 rfl ?_
          refine J_max (pc1 := 40) (by decide) (by decide) (by omega) (by omega) lm_X8_25 dX8_answerForces_37 rfl (by omega) (Nat.le_of_ble_eq_true rfl) (by omega) (by omega) ?_
          refine J_istore (pc1 := 42) (L1 := [some (.ref t), some (.int (iI left)), some (.int (iI tw)), some (.int (iI o)), some (.int (iI f)), some (.int (iI x)), some (.int (iI (mx 0 (x + ti))))]) dX8_answerForces_40 rfl (by decide) rfl rfl ?_
          exact LP2 x x1 x2 x3 (by first | exact Or.inl (by omega) | exact Or.inr (bC_1 (by assumption))) 101 (mx 0 (x + ti)) (Int.le_refl _) (fun e e1 e2 => by omega) (by omega) (by omega)
        · refine J_iinc (pc1 := 26) (L1 := [some (.ref t), some (.int (iI left)), some (.int (iI tw)), some (.int (iI o)), some (.int (iI f)), some (.int (iI (x + (-1)))), none]) dX8_answerForces_23 rfl rfl (by decide) rfl rfl ?_
          refine J_goto (tgt := 3) dX8_answerForces_26 rfl ?_
          refine ih (x + (-1)) (by omega) (by omega) (fun a a1 a2 => ?_) (by omega)
          rcases Classical.em (a = x) with q | q
          · subst q
            exact bC_0 (by assumption)
          · exact x3 a (by omega) a2
  refine J_iload_n (pc1 := 1) rfl (i := 3) rfl dX8_answerForces_0 rfl ?_
  refine J_istore (pc1 := 3) (L1 := [some (.ref t), some (.int (iI left)), some (.int (iI tw)), some (.int (iI o)), some (.int (iI f)), some (.int (iI o)), none]) dX8_answerForces_1 rfl (by decide) rfl rfl ?_
  exact LP1 101 o (by omega) (by omega) (fun a a1 a2 => by omega) (by omega)
end
section
/-! 09.fill: how a table comes to its times -/
theorem zlt (a b : Int) : a < b ∨ b ≤ a := by omega
def subL : List (Option Value) → List (Option Value) → Prop
  | [], _ => True
  | none :: a, _ :: b => subL a b
  | some v :: a, some u :: b => v = u ∧ subL a b
  | _ :: _, _ => False
theorem subL_at : ∀ (a b : List (Option Value)), subL a b → ∀ (i : Nat) (v : Value), a[i]? = some (some v) → b[i]? = some (some v) := by
  intro a
  induction a with
  | nil => intro b h i v hi; cases hi
  | cons x a ih =>
    intro b h i v hi
    cases b with
    | nil => cases x <;> exact absurd h id
    | cons z b =>
      cases x with
      | none =>
        cases i with
        | zero => cases hi
        | succ i => exact ih b h i v hi
      | some u =>
        cases z with
        | none => exact absurd h id
        | some t =>
          cases i with
          | zero => cases hi; rw [h.1]; rfl
          | succ i => exact ih b h.2 i v hi
theorem J_sub {y : MethodName} {cc : ByteArray} {nL : Nat} {rt : Option FieldType} {d tc ts : Nat} {K : Option Value → pS → Prop} {c0 s0 : Nat} {S : pS} {pc : Nat} {L L1 : List (Option Value)} {st : List Value} (h : subL L1 L) (k : Jd y cc nL rt d tc ts K c0 s0 S pc L1 st) : Jd y cc nL rt d tc ts K c0 s0 S pc L st :=
  fun p l e R s m args below meth c D q A Q C hR H locs ls hP hS hl => k p l e R s m args below meth c D q A Q C hR H locs ls hP hS ⟨hl.1, hl.2.1, fun i v hi => hl.2.2 i v (subL_at L1 L h i v hi)⟩
def IB (E ti ps top w : Int) (k : Nat) (cur : Int) (g : Int → Int) : Prop := ∀ tw o f b, vd E ps top tw o f → (b = 0 ∨ b = 1) → (ixF ps top w tw o f b < cur → tB E ti ps (k + 1) (g (ixF ps top w tw o f b)) tw o f b) ∧ (cur ≤ ixF ps top w tw o f b → tB E ti ps k (g (ixF ps top w tw o f b)) tw o f b)
def MO (E ti ps top w : Int) (k : Nat) (cur : Int) (M : Prop) : Prop := ¬ M → ∀ tw o f b, vd E ps top tw o f → (b = 0 ∨ b = 1) → ixF ps top w tw o f b < cur → fc E ti ps (k + 1) tw o f b → fc E ti ps k tw o f b
def aB (E ti ps top w : Int) (k : Nat) (g : Int → Int) : Prop := ∀ tw o f b, vd E ps top tw o f → (b = 0 ∨ b = 1) → tB E ti ps k (g (ixF ps top w tw o f b)) tw o f b
theorem tB_up {E ti ps : Int} {k : Nat} {v tw o f b : Int} (h : tB E ti ps k v tw o f b) (hv : v ≠ 9 ∨ (v = 9 ∧ ¬ fc E ti ps (k + 1) tw o f b)) (hk : k ≤ 7) : tB E ti ps (k + 1) v tw o f b := by
  obtain ⟨h1, h2, h3⟩ := h
  refine ⟨h1, by omega, fun j hj => ?_⟩
  rcases Nat.lt_or_ge j (k + 1) with q | q
  · exact h3 j (by omega)
  · have e : j = k + 1 := by omega
    subst e
    rcases hv with hv | ⟨hv, hn⟩
    · exact ⟨fun _ => fc_succ k _ _ _ _ ((h3 k (Nat.le_refl k)).mp (by omega)), fun _ => by omega⟩
    · exact ⟨fun z => by omega, fun z => absurd z hn⟩
theorem tB_set {E ti ps : Int} {k : Nat} {tw o f b : Int} (h : tB E ti ps k 9 tw o f b) (hk : k ≤ 7) {v : Int} (hv : (v = (k : Int) + 1 ∧ fc E ti ps (k + 1) tw o f b) ∨ (v = 9 ∧ ¬ fc E ti ps (k + 1) tw o f b)) : tB E ti ps (k + 1) v tw o f b := by
  rcases hv with ⟨rfl, hf⟩ | ⟨rfl, hf⟩
  · obtain ⟨h1, h2, h3⟩ := h
    refine ⟨by omega, Or.inl (by omega), fun j hj => ?_⟩
    rcases Nat.lt_or_ge j (k + 1) with q | q
    · have := h3 j (by omega)
      exact ⟨fun z => by omega, fun z => by have := this.mpr z; omega⟩
    · have e : j = k + 1 := by omega
      subst e
      exact ⟨fun _ => hf, fun _ => by omega⟩
  · exact tB_up h (Or.inr ⟨rfl, hf⟩) hk
theorem fc_end {E ti ps : Int} {k : Nat} {o f b : Int} (hE : 1 ≤ E) : ¬ fc E ti ps k (2 * E) o f b := by
  intro h
  cases k with
  | zero => have h : 2 * E ≤ 0 := h; omega
  | succ k => rcases h with h | ⟨h, -⟩ <;> omega
theorem fc_0 {E ti ps : Int} {k : Nat} {o f b : Int} : fc E ti ps k 0 o f b := by
  cases k with
  | zero => exact Int.le_refl 0
  | succ k => exact Or.inl (Int.le_refl 0)
theorem IB_start {E ti ps top : Int} {w n k : Nat} {g : Int → Int} (h : tbN E ti ps top w n) (hk : k ≤ 7) (ha : aB E ti ps top w k g) : IB E ti ps top w k (2 * w) g := by
  intro tw o f b hv hb
  refine ⟨fun hlt => ?_, fun _ => ha tw o f b hv hb⟩
  obtain ⟨s1, s2⟩ := sp_b h hv
  have h0 : tw = 0 := by
    rcases Classical.em (tw = 0) with q | q
    · exact q
    · exfalso
      have h1 : 2 * (w : Int) ≤ (2 * tw + b) * w := Int.mul_le_mul_of_nonneg_right (by have := hv.1; omega) (by omega)
      unfold ixF at hlt
      omega
  subst h0
  refine tB_up (ha 0 o f b hv hb) (Or.inl ?_) hk
  have := ((ha 0 o f b hv hb).2.2 0 (Nat.zero_le k)).mpr fc_0
  omega
theorem IB_fc {E ti ps top : Int} {w k : Nat} {cur : Int} {g : Int → Int} (h : IB E ti ps top w k cur g) {tw o f b : Int} (hv : vd E ps top tw o f) (hb : b = 0 ∨ b = 1) : PL ps top w g k tw o f b ↔ fc E ti ps k tw o f b := by
  unfold PL
  rcases zlt (ixF ps top w tw o f b) cur with q | q
  · exact ((h tw o f b hv hb).1 q).2.2 k (by omega)
  · exact ((h tw o f b hv hb).2 q).2.2 k (Nat.le_refl k)
theorem stP_1 {E ti ps : Int} {P : qP} {tw o f : Int} (h : 0 < tw ∧ tw < 2 * E) : stP E ti ps P tw o f 1 ↔ bidP ti ps P tw o f :=
  ⟨fun z => z.elim (fun q => by omega) (fun q => q.2.1 rfl), fun z => Or.inr ⟨h.2, fun _ => z, fun q => by omega⟩⟩
theorem stP_0 {E ti ps : Int} {P : qP} {tw o f : Int} (h : 0 < tw ∧ tw < 2 * E) : stP E ti ps P tw o f 0 ↔ ansP ti ps P tw o f :=
  ⟨fun z => z.elim (fun q => by omega) (fun q => q.2.2 rfl), fun z => Or.inr ⟨h.2, fun q => by omega, fun _ => z⟩⟩
theorem IB_st {E ti ps top : Int} {w n k : Nat} {cur : Int} {g : Int → Int} (hn : tbN E ti ps top w n) (h : IB E ti ps top w k cur g) {tw o f b : Int} (hv : vd E ps top tw o f) : stP E ti ps (PL ps top w g k) tw o f b ↔ fc E ti ps (k + 1) tw o f b :=
  stP_c hn.2.2.1 (fun _ _ _ _ v e => IB_fc h v e) hv
theorem IB_skip {E ti ps top : Int} {w n k : Nat} {cur r x : Int} {g : Int → Int} {M : Prop} (hn : tbN E ti ps top w n) (hk : k ≤ 7) (hr : 0 ≤ r ∧ r < 4 * E + 2) (hx : 0 ≤ x ∧ x < w) (hc : cur = r * w + x) (h : IB E ti ps top w k cur g) (hm : MO E ti ps top w k cur M) (h9 : ¬ g cur = 9) : IB E ti ps top w k (cur + 1) g ∧ MO E ti ps top w k (cur + 1) M := by
  refine ⟨fun tw o f b hv hb => ⟨fun hlt => ?_, fun hge => (h tw o f b hv hb).2 (by omega)⟩, fun hM tw o f b hv hb hlt hf => ?_⟩
  · rcases zlt (ixF ps top w tw o f b) cur with q | q
    · exact (h tw o f b hv hb).1 q
    · have e : ixF ps top w tw o f b = cur := by omega
      have h1 := (h tw o f b hv hb).2 q
      rw [e] at h1 ⊢
      exact tB_up h1 (Or.inl h9) hk
  · rcases zlt (ixF ps top w tw o f b) cur with q | q
    · exact hm hM tw o f b hv hb q hf
    · have e : ixF ps top w tw o f b = cur := by omega
      have h1 := (h tw o f b hv hb).2 q
      rw [e] at h1
      exact (h1.2.2 k (Nat.le_refl k)).mp (by have := h1.2.1; omega)
theorem IB_set {E ti ps top : Int} {w n k : Nat} {cur r x v : Int} {g : Int → Int} {M F : Prop} (hn : tbN E ti ps top w n) (hk : k ≤ 7) (hr : 0 ≤ r ∧ r < 4 * E + 2) (hx : 0 ≤ x ∧ x < w) (hc : cur = r * w + x) (h : IB E ti ps top w k cur g) (hm : MO E ti ps top w k cur M) (h9 : g cur = 9) (hF : F ↔ fc E ti ps (k + 1) (r / 2) (ogF ps top x) (fgF ps top x) (r % 2)) (hv : (v = (k : Int) + 1 ∧ F) ∨ (v = 9 ∧ ¬ F)) : IB E ti ps top w k (cur + 1) (uZ g cur v) ∧ MO E ti ps top w k (cur + 1) (M ∨ F) := by
  obtain ⟨s1, s2⟩ := st_of hn hr hx
  have hb2 : r % 2 = 0 ∨ r % 2 = 1 := by omega
  have key : ∀ tw o f b, vd E ps top tw o f → (b = 0 ∨ b = 1) → ixF ps top w tw o f b = cur → tw = r / 2 ∧ o = ogF ps top x ∧ f = fgF ps top x ∧ b = r % 2 := fun tw o f b hv hb he => ix_inj hn hv hb s1 hb2 (by rw [he, s2, hc])
  refine ⟨fun tw o f b hv' hb => ⟨fun hlt => ?_, fun hge => ?_⟩, fun hM tw o f b hv' hb hlt hf => ?_⟩
  · rcases zlt (ixF ps top w tw o f b) cur with q | q
    · have e : uZ g cur v (ixF ps top w tw o f b) = g (ixF ps top w tw o f b) := if_neg (by omega)
      rw [e]
      exact (h tw o f b hv' hb).1 q
    · have e : ixF ps top w tw o f b = cur := by omega
      have h1 := (h tw o f b hv' hb).2 q
      obtain ⟨k1, k2, k3, k4⟩ := key tw o f b hv' hb e
      rw [e, h9] at h1
      have e2 : uZ g cur v (ixF ps top w tw o f b) = v := by rw [e]; exact if_pos rfl
      rw [e2]
      refine tB_set h1 hk ?_
      rw [k1, k2, k3, k4, ← hF]
      exact hv
  · have e : uZ g cur v (ixF ps top w tw o f b) = g (ixF ps top w tw o f b) := if_neg (by omega)
    rw [e]
    exact (h tw o f b hv' hb).2 (by omega)
  · rcases zlt (ixF ps top w tw o f b) cur with q | q
    · exact hm (fun z => hM (Or.inl z)) tw o f b hv' hb q hf
    · obtain ⟨k1, k2, k3, k4⟩ := key tw o f b hv' hb (by omega)
      rw [k1, k2, k3, k4, ← hF] at hf
      exact absurd (Or.inr hf) hM
theorem ix_end {E ti ps top tw o f b : Int} {w n : Nat} (hn : tbN E ti ps top w n) (hv : vd E ps top tw o f) (hb : b = 0 ∨ b = 1) (h : 4 * E * w ≤ ixF ps top w tw o f b) : tw = 2 * E := by
  obtain ⟨s1, s2⟩ := sp_b hn hv
  rcases Classical.em (tw = 2 * E) with q | q
  · exact q
  · exfalso
    have h1 := (row_b (r := 2 * tw + b) (m := 4 * E) (by have := hv.2.1; omega) (by have := hv.1; omega) s1 s2).2
    unfold ixF at h
    omega
theorem IB_end {E ti ps top : Int} {w n k : Nat} {g : Int → Int} {M : Prop} (hn : tbN E ti ps top w n) (hk : k ≤ 7) (h : IB E ti ps top w k (4 * E * w) g) (hm : MO E ti ps top w k (4 * E * w) M) : aB E ti ps top w (k + 1) g ∧ (¬ M → ∀ tw o f b, vd E ps top tw o f → (b = 0 ∨ b = 1) → fc E ti ps (k + 1) tw o f b → fc E ti ps k tw o f b) := by
  refine ⟨fun tw o f b hv hb => ?_, fun hM tw o f b hv hb hf => ?_⟩
  · rcases zlt (ixF ps top w tw o f b) (4 * E * w) with q | q
    · exact (h tw o f b hv hb).1 q
    · have e := ix_end hn hv hb q
      have h1 := (h tw o f b hv hb).2 q
      subst e
      refine tB_up h1 (Or.inr ⟨?_, fc_end hn.1.1⟩) hk
      rcases h1.2.1 with z | z
      · exact absurd ((h1.2.2 k (Nat.le_refl k)).mp z) (fc_end hn.1.1)
      · exact z
  · rcases zlt (ixF ps top w tw o f b) (4 * E * w) with q | q
    · exact hm hM tw o f b hv hb q hf
    · have e := ix_end hn hv hb q
      subst e
      exact absurd hf (fc_end hn.1.1)
/-- a table of some rounds, where one more forces nothing more, is one of 8 -/
theorem aB_stab {E ti ps top : Int} {w n k : Nat} {g : Int → Int} (hn : tbN E ti ps top w n) (h : aB E ti ps top w (k + 1) g) (hs : ∀ tw o f b, vd E ps top tw o f → (b = 0 ∨ b = 1) → fc E ti ps (k + 1) tw o f b → fc E ti ps k tw o f b) (hk : k ≤ 7) : aB E ti ps top w 8 g := by
  intro tw o f b hv hb
  obtain ⟨h1, h2, h3⟩ := h tw o f b hv hb
  refine ⟨h1, by omega, fun j hj => ?_⟩
  rcases Nat.lt_or_ge j (k + 2) with q | q
  · exact h3 j (by omega)
  · constructor
    · intro z
      have h4 : g (ixF ps top w tw o f b) ≤ ((k + 1 : Nat) : Int) := by omega
      exact fc_mono (by omega) ((h3 (k + 1) (Nat.le_refl _)).mp h4)
    · intro z
      have h4 := fc_stab hn.2.2.1 hs j (by omega) tw o f b hv hb z
      have h5 := (h3 k (by omega)).mpr h4
      omega
def KLR (S : pS) (E ti ps top : Int) (w n tm k : Nat) : Option Value → pS → Prop := fun r S' => ∃ (M : Prop) (g : Int → Int), r = some (.int (iI (bC M))) ∧ S' = pu S tm (aI n g) ∧ (∀ x, 0 ≤ g x ∧ g x ≤ 9) ∧ aB E ti ps top w (k + 1) g ∧ (¬ M → ∀ tw o f b, vd E ps top tw o f → (b = 0 ∨ b = 1) → fc E ti ps (k + 1) tw o f b → fc E ti ps k tw o f b)
theorem uZ_b {g : Int → Int} (h : ∀ x, 0 ≤ g x ∧ g x ≤ 9) {z v : Int} (hv : 0 ≤ v ∧ v ≤ 9) : ∀ x, 0 ≤ uZ g z v x ∧ uZ g z v x ≤ 9 := fun x => by
  unfold uZ
  split
  · exact hv
  · exact h x
theorem TbS_pu {S : pS} {t ow fo tm w n : Nat} {E ti ps top : Int} {tg g : Int → Int} (T : TbS S t E ti ps top ow fo tm w n tg) (h1 : ow ≠ tm) (h2 : fo ≠ tm) (hg : ∀ x, 0 ≤ g x ∧ g x ≤ 9) : TbS (pu S tm (aI n g)) t E ti ps top ow fo tm w n g :=
  ⟨(pu_ne _ _ (ne_OI T.1 T.2.2.2.1)).trans T.1, (pu_ne _ _ h1).trans T.2.1, (pu_ne _ _ h2).trans T.2.2.1, pu_self _ _ _, hg, T.2.2.2.2.2⟩
theorem MO_start {E ti ps top : Int} {w n k : Nat} (h : tbN E ti ps top w n) : MO E ti ps top w k (2 * w) False := by
  intro _ tw o f b hv hb hlt _
  obtain ⟨s1, s2⟩ := sp_b h hv
  have h0 : tw = 0 := by
    rcases Classical.em (tw = 0) with q | q
    · exact q
    · exfalso
      have h1 : 2 * (w : Int) ≤ (2 * tw + b) * w := Int.mul_le_mul_of_nonneg_right (by have := hv.1; omega) (by omega)
      unfold ixF at hlt
      omega
  subst h0
  exact fc_0
set_option maxHeartbeats 2000000 in
set_option maxRecDepth 20000 in
theorem c_X8_learnRounds {S : pS} {t ow fo tm w n : Nat} {E ti ps top : Int} {tg : Int → Int} (T : TbS S t E ti ps top ow fo tm w n tg) (d1 : ow ≠ tm) (d2 : fo ≠ tm) {k : Nat} (hk : k ≤ 7) (ha : aB E ti ps top w k tg) : Ct yX8_learnRounds cX8_learnRounds 7 (Option.some FieldType.boolean) 3 0 0 [.ref t, .int (iI ((k : Int) + 1))] S (KLR S E ti ps top w n tm k) := by
  obtain ⟨n1, n2, n3, n4, n5, n6, n7⟩ := T.2.2.2.2.2
  obtain ⟨w1, w2, w3, w4, w5, w6⟩ := tbN_w T.2.2.2.2.2
  have hg := T.2.2.2.2.1
  refine Ct.ofJ (by decide +kernel) (Nat.le_of_ble_eq_true rfl) ?_
  refine J_L (L1 := [some (.ref t), some (.int (iI ((k : Int) + 1))), none, none, none, none, none]) rfl ?_
  have LPo : ∀ (n9 : Nat) (r : Int) (g : Int → Int) (M : Prop), 2 ≤ r → r ≤ 4 * E → (∀ x, 0 ≤ g x ∧ g x ≤ 9) → IB E ti ps top w k (r * w) g → MO E ti ps top w k (r * w) M → 4 * E - r < n9 → Jd yX8_learnRounds cX8_learnRounds 7 (Option.some FieldType.boolean) 3 0 0 (KLR S E ti ps top w n tm k) 0 0 (pu S tm (aI n g)) 4 [some (.ref t), some (.int (iI ((k : Int) + 1))), some (.int (iI (bC M))), some (.int (iI r)), none, none, none] [] := by
    intro n9
    induction n9 with
    | zero => intro r g M r1 r2 hg2 hI hM hn; omega
    | succ n9 iho =>
      intro r g M r1 r2 hg2 hI hM hn
      have T2 := TbS_pu T d1 d2 hg2
      have LPi : r < 4 * E → ∀ (n8 : Nat) (x : Int) (g : Int → Int) (M : Prop), 0 ≤ x → x ≤ w → (∀ x, 0 ≤ g x ∧ g x ≤ 9) → IB E ti ps top w k (r * w + x) g → MO E ti ps top w k (r * w + x) M → w - x < n8 → Jd yX8_learnRounds cX8_learnRounds 7 (Option.some FieldType.boolean) 3 0 0 (KLR S E ti ps top w n tm k) 0 0 (pu S tm (aI n g)) 17 [some (.ref t), some (.int (iI ((k : Int) + 1))), some (.int (iI (bC M))), some (.int (iI r)), some (.int (iI x)), none, none] [] := by
        intro r3 n8
        induction n8 with
        | zero => intro x g M x1 x2 hg2 hI hM hn8; omega
        | succ n8 ihi =>
          intro x g M x1 x2 hg2 hI hM hn8
          have T2 := TbS_pu T d1 d2 hg2
          refine J_iload (pc1 := 19) rfl dX8_learnRounds_17 rfl ?_
          refine J_aload_n (pc1 := 20) rfl (i := 0) rfl dX8_learnRounds_19 rfl ?_
          refine J_get (pc1 := 23) (j := 4) inUX8 (ci := 8) rfl (by decide) lf_X8_31 dX8_learnRounds_20 rfl T2.1 rfl ?_
          refine J_alenI (pc1 := 24) dX8_learnRounds_23 rfl T2.2.1 ?_
          refine J_icmp_ge (pc1 := 27) (tgt := 160) (by omega) (by omega) (by omega) (by omega) dX8_learnRounds_24 rfl rfl (fun h1 => ?_) (fun h1 => ?_)
          · refine J_iinc (pc1 := 163) (L1 := [some (.ref t), some (.int (iI ((k : Int) + 1))), some (.int (iI (bC M))), some (.int (iI (r + 1))), some (.int (iI x)), none, none]) dX8_learnRounds_160 rfl rfl (by decide) rfl rfl ?_
            refine J_goto (tgt := 4) dX8_learnRounds_163 rfl ?_
            have e9 : r * (w : Int) + x = (r + 1) * w := by rw [Int.add_mul, Int.one_mul]; omega
            rw [e9] at hI hM
            refine J_sub (L1 := [some (.ref t), some (.int (iI ((k : Int) + 1))), some (.int (iI (bC M))), some (.int (iI (r + 1))), none, none, none]) ⟨rfl, rfl, rfl, rfl, trivial⟩ ?_
            exact iho (r + 1) g M (by omega) (by omega) hg2 hI hM (by omega)
          · refine J_iload (pc1 := 29) rfl dX8_learnRounds_27 rfl ?_
            refine J_aload_n (pc1 := 30) rfl (i := 0) rfl dX8_learnRounds_29 rfl ?_
            refine J_get (pc1 := 33) (j := 5) inUX8 (ci := 8) rfl (by decide) lf_X8_35 dX8_learnRounds_30 rfl T2.1 rfl ?_
            refine J_alenI (pc1 := 34) dX8_learnRounds_33 rfl T2.2.2.1 ?_
            refine J_icmp_ge (pc1 := 37) (tgt := 160) (by omega) (by omega) (by omega) (by omega) dX8_learnRounds_34 rfl rfl (fun h2 => ?_) (fun h2 => ?_)
            · omega
            · refine J_iload_n (pc1 := 38) rfl (i := 3) rfl dX8_learnRounds_37 rfl ?_
              refine J_aload_n (pc1 := 39) rfl (i := 0) rfl dX8_learnRounds_38 rfl ?_
              refine J_get (pc1 := 42) (j := 4) inUX8 (ci := 8) rfl (by decide) lf_X8_31 dX8_learnRounds_39 rfl T2.1 rfl ?_
              refine J_alenI (pc1 := 43) dX8_learnRounds_42 rfl T2.2.1 ?_
              refine J_imul (pc1 := 44) dX8_learnRounds_43 rfl ?_
              refine J_iload (pc1 := 46) rfl dX8_learnRounds_44 rfl ?_
              refine J_iadd (pc1 := 47) dX8_learnRounds_46 rfl ?_
              refine J_nm (fun z11 hz11 => ?_)
              obtain ⟨s1, s2⟩ := st_of T.2.2.2.2.2 (r := r) (x := x) (by omega) (by omega)
              have hb9 := row_b (r := r) (s := x) (w := (w : Int)) (m := 4 * E + 2) (by omega) (by omega) (by omega) (by omega)
              rw [← n7, ← hz11] at hb9
              have hg9 := hg2 z11
              rw [← hz11] at hI hM
              refine J_istore (pc1 := 49) (L1 := [some (.ref t), some (.int (iI ((k : Int) + 1))), some (.int (iI (bC M))), some (.int (iI r)), some (.int (iI x)), some (.int (iI z11)), none]) dX8_learnRounds_47 rfl (by decide) rfl rfl ?_
              refine J_iload (pc1 := 51) rfl dX8_learnRounds_49 rfl ?_
              refine J_aload_n (pc1 := 52) rfl (i := 0) rfl dX8_learnRounds_51 rfl ?_
              refine J_get (pc1 := 55) (j := 6) inUX8 (ci := 8) rfl (by decide) lf_X8_38 dX8_learnRounds_52 rfl T2.1 rfl ?_
              refine J_alenI (pc1 := 56) dX8_learnRounds_55 rfl T2.2.2.2.1 ?_
              refine J_icmp_ge (pc1 := 59) (tgt := 154) (by omega) (by omega) (by omega) (by omega) dX8_learnRounds_56 rfl rfl (fun h3 => ?_) (fun h3 => ?_)
              · omega
              · refine J_aload_n (pc1 := 60) rfl (i := 0) rfl dX8_learnRounds_59 rfl ?_
                refine J_get (pc1 := 63) (j := 6) inUX8 (ci := 8) rfl (by decide) lf_X8_38 dX8_learnRounds_60 rfl T2.1 rfl ?_
                refine J_iload (pc1 := 65) rfl dX8_learnRounds_63 rfl ?_
                refine J_iald (pc1 := 66) dX8_learnRounds_65 rfl T2.2.2.2.1 (by omega) (by omega) (by omega) ?_
                refine J_bipush (pc1 := 68) (by decide) dX8_learnRounds_66 rfl ?_
                refine J_icmp_ne (pc1 := 71) (tgt := 154) (by omega) (by omega) (by decide) (by decide) dX8_learnRounds_68 rfl rfl (fun h4 => ?_) (fun h4 => ?_)
                · refine J_iinc (pc1 := 157) (L1 := [some (.ref t), some (.int (iI ((k : Int) + 1))), some (.int (iI (bC M))), some (.int (iI r)), some (.int (iI (x + 1))), some (.int (iI z11)), none]) dX8_learnRounds_154 rfl rfl (by decide) rfl rfl ?_
                  refine J_goto (tgt := 17) dX8_learnRounds_157 rfl ?_
                  refine J_sub (L1 := [some (.ref t), some (.int (iI ((k : Int) + 1))), some (.int (iI (bC M))), some (.int (iI r)), some (.int (iI (x + 1))), none, none]) ⟨rfl, rfl, rfl, rfl, rfl, trivial⟩ ?_
                  obtain ⟨I1, I2⟩ := IB_skip T.2.2.2.2.2 (by omega) (r := r) (x := x) (by omega) (by omega) hz11 hI hM (by assumption)
                  rw [hz11, Int.add_assoc] at I1 I2
                  exact ihi (x + 1) g M (by omega) (by omega) hg2 I1 I2 (by omega)
                · refine J_iload_n (pc1 := 72) rfl (i := 3) rfl dX8_learnRounds_71 rfl ?_
                  refine J_iconst (pc1 := 73) dX8_learnRounds_72 rfl ?_
                  refine J_irem (pc1 := 74) (by omega) (by omega) (by omega) (by omega) dX8_learnRounds_73 rfl ?_
                  refine J_iconst (pc1 := 75) dX8_learnRounds_74 rfl ?_
                  refine J_icmp_ne (pc1 := 78) (tgt := 105) (by omega) (by omega) (by decide) (by decide) dX8_learnRounds_75 rfl rfl (fun h5 => ?_) (fun h5 => ?_)
                  · refine J_aload_n (pc1 := 106) rfl (i := 0) rfl dX8_learnRounds_105 rfl ?_
                    refine J_iload_n (pc1 := 107) rfl (i := 1) rfl dX8_learnRounds_106 rfl ?_
                    refine J_iconst (pc1 := 108) dX8_learnRounds_107 rfl ?_
                    refine J_isub (pc1 := 109) dX8_learnRounds_108 rfl ?_
                    refine J_nm (fun z12 hz12 => ?_)
                    obtain rfl : z12 = (k : Int) := by omega
                    refine J_iload_n (pc1 := 110) rfl (i := 3) rfl dX8_learnRounds_109 rfl ?_
                    refine J_iconst (pc1 := 111) dX8_learnRounds_110 rfl ?_
                    refine J_idiv (pc1 := 112) (by omega) (by omega) (by omega) (by omega) dX8_learnRounds_111 rfl ?_
                    refine J_aload_n (pc1 := 113) rfl (i := 0) rfl dX8_learnRounds_112 rfl ?_
                    refine J_get (pc1 := 116) (j := 4) inUX8 (ci := 8) rfl (by decide) lf_X8_31 dX8_learnRounds_113 rfl T2.1 rfl ?_
                    refine J_iload (pc1 := 118) rfl dX8_learnRounds_116 rfl ?_
                    refine J_iald (pc1 := 119) dX8_learnRounds_118 rfl T2.2.1 (by omega) (by omega) (by omega) ?_
                    refine J_aload_n (pc1 := 120) rfl (i := 0) rfl dX8_learnRounds_119 rfl ?_
                    refine J_get (pc1 := 123) (j := 5) inUX8 (ci := 8) rfl (by decide) lf_X8_35 dX8_learnRounds_120 rfl T2.1 rfl ?_
                    refine J_iload (pc1 := 125) rfl dX8_learnRounds_123 rfl ?_
                    refine J_iald (pc1 := 126) dX8_learnRounds_125 rfl T2.2.2.1 (by omega) (by omega) (by omega) ?_
                    have hq : ansP ti ps (PL ps top w g k) (r / 2) (ogF ps top x) (fgF ps top x) ↔ fc E ti ps (k + 1) (r / 2) (ogF ps top x) (fgF ps top x) (r % 2) := by
                      rw [show r % 2 = 0 by omega, ← stP_0 (E := E) (by omega)]
                      exact IB_st T.2.2.2.2.2 hI s1
                    refine J_callVI (pc1 := 129) (As := [.int (iI (k : Int)), .int (iI (r / 2)), .int (iI (ogF ps top x)), .int (iI (fgF ps top x))]) gv_X8_49 yv_X8_answerForces rfl (c_X8_answerForces T2 s1 (by omega) (by omega)) dX8_learnRounds_126 rfl T2.1 rfl rfl (by omega) (by decide) (Nat.zero_le _) (Nat.zero_le _) (Nat.le_of_ble_eq_true rfl) ?_
                    rw [bC_c hq]
                    refine J_istore (pc1 := 131) (L1 := [some (.ref t), some (.int (iI ((k : Int) + 1))), some (.int (iI (bC M))), some (.int (iI r)), some (.int (iI x)), some (.int (iI z11)), some (.int (iI (bC (fc E ti ps (k + 1) (r / 2) (ogF ps top x) (fgF ps top x) (r % 2)))))]) dX8_learnRounds_129 rfl (by decide) rfl rfl ?_
                    refine J_aload_n (pc1 := 132) rfl (i := 0) rfl dX8_learnRounds_131 rfl ?_
                    refine J_get (pc1 := 135) (j := 6) inUX8 (ci := 8) rfl (by decide) lf_X8_38 dX8_learnRounds_132 rfl T2.1 rfl ?_
                    refine J_iload (pc1 := 137) rfl dX8_learnRounds_135 rfl ?_
                    refine J_iload (pc1 := 139) rfl dX8_learnRounds_137 rfl ?_
                    refine J_if_eq (pc1 := 142) (tgt := 146) (bC_lo _) (bC_hi _) dX8_learnRounds_139 rfl rfl (fun h6 => ?_) (fun h6 => ?_)
                    · refine J_bipush (pc1 := 148) (by decide) dX8_learnRounds_146 rfl ?_
                      refine J_iast (pc1 := 149) dX8_learnRounds_148 rfl T2.2.2.2.1 (by omega) (by omega) (by omega) ?_
                      rw [pu_pu]
                      refine J_iload_n (pc1 := 150) rfl (i := 2) rfl dX8_learnRounds_149 rfl ?_
                      refine J_iload (pc1 := 152) rfl dX8_learnRounds_150 rfl ?_
                      refine J_iorC (pc1 := 153) dX8_learnRounds_152 rfl ?_
                      refine J_istore_n (pc1 := 154) (L1 := [some (.ref t), some (.int (iI ((k : Int) + 1))), some (.int (iI (bC (M ∨ (fc E ti ps (k + 1) (r / 2) (ogF ps top x) (fgF ps top x) (r % 2)))))), some (.int (iI r)), some (.int (iI x)), some (.int (iI z11)), some (.int (iI (bC (fc E ti ps (k + 1) (r / 2) (ogF ps top x) (fgF ps top x) (r % 2)))))]) rfl (i := 2) dX8_learnRounds_153 rfl (by decide) rfl rfl ?_
                      refine J_iinc (pc1 := 157) (L1 := [some (.ref t), some (.int (iI ((k : Int) + 1))), some (.int (iI (bC (M ∨ (fc E ti ps (k + 1) (r / 2) (ogF ps top x) (fgF ps top x) (r % 2)))))), some (.int (iI r)), some (.int (iI (x + 1))), some (.int (iI z11)), some (.int (iI (bC (fc E ti ps (k + 1) (r / 2) (ogF ps top x) (fgF ps top x) (r % 2)))))]) dX8_learnRounds_154 rfl rfl (by decide) rfl rfl ?_
                      refine J_goto (tgt := 17) dX8_learnRounds_157 rfl ?_
                      refine J_sub (L1 := [some (.ref t), some (.int (iI ((k : Int) + 1))), some (.int (iI (bC (M ∨ (fc E ti ps (k + 1) (r / 2) (ogF ps top x) (fgF ps top x) (r % 2)))))), some (.int (iI r)), some (.int (iI (x + 1))), none, none]) ⟨rfl, rfl, rfl, rfl, rfl, trivial⟩ ?_
                      obtain ⟨I1, I2⟩ := IB_set (v := 9) T.2.2.2.2.2 (by omega) (r := r) (x := x) (by omega) (by omega) hz11 hI hM (by assumption) Iff.rfl (by first | exact Or.inl ⟨rfl, bC_1 (by assumption)⟩ | exact Or.inr ⟨rfl, bC_0 (by assumption)⟩)
                      rw [show z11 + 1 = r * w + (x + 1) by omega] at I1 I2
                      exact ihi (x + 1) _ _ (by omega) (by omega) (uZ_b hg2 (by omega)) I1 I2 (by omega)
                    · refine J_iload_n (pc1 := 143) rfl (i := 1) rfl dX8_learnRounds_142 rfl ?_
                      refine J_goto (tgt := 148) dX8_learnRounds_143 rfl ?_
                      refine J_iast (pc1 := 149) dX8_learnRounds_148 rfl T2.2.2.2.1 (by omega) (by omega) (by omega) ?_
                      rw [pu_pu]
                      refine J_iload_n (pc1 := 150) rfl (i := 2) rfl dX8_learnRounds_149 rfl ?_
                      refine J_iload (pc1 := 152) rfl dX8_learnRounds_150 rfl ?_
                      refine J_iorC (pc1 := 153) dX8_learnRounds_152 rfl ?_
                      refine J_istore_n (pc1 := 154) (L1 := [some (.ref t), some (.int (iI ((k : Int) + 1))), some (.int (iI (bC (M ∨ (fc E ti ps (k + 1) (r / 2) (ogF ps top x) (fgF ps top x) (r % 2)))))), some (.int (iI r)), some (.int (iI x)), some (.int (iI z11)), some (.int (iI (bC (fc E ti ps (k + 1) (r / 2) (ogF ps top x) (fgF ps top x) (r % 2)))))]) rfl (i := 2) dX8_learnRounds_153 rfl (by decide) rfl rfl ?_
                      refine J_iinc (pc1 := 157) (L1 := [some (.ref t), some (.int (iI ((k : Int) + 1))), some (.int (iI (bC (M ∨ (fc E ti ps (k + 1) (r / 2) (ogF ps top x) (fgF ps top x) (r % 2)))))), some (.int (iI r)), some (.int (iI (x + 1))), some (.int (iI z11)), some (.int (iI (bC (fc E ti ps (k + 1) (r / 2) (ogF ps top x) (fgF ps top x) (r % 2)))))]) dX8_learnRounds_154 rfl rfl (by decide) rfl rfl ?_
                      refine J_goto (tgt := 17) dX8_learnRounds_157 rfl ?_
                      refine J_sub (L1 := [some (.ref t), some (.int (iI ((k : Int) + 1))), some (.int (iI (bC (M ∨ (fc E ti ps (k + 1) (r / 2) (ogF ps top x) (fgF ps top x) (r % 2)))))), some (.int (iI r)), some (.int (iI (x + 1))), none, none]) ⟨rfl, rfl, rfl, rfl, rfl, trivial⟩ ?_
                      obtain ⟨I1, I2⟩ := IB_set (v := ((k : Int) + 1)) T.2.2.2.2.2 (by omega) (r := r) (x := x) (by omega) (by omega) hz11 hI hM (by assumption) Iff.rfl (by first | exact Or.inl ⟨rfl, bC_1 (by assumption)⟩ | exact Or.inr ⟨rfl, bC_0 (by assumption)⟩)
                      rw [show z11 + 1 = r * w + (x + 1) by omega] at I1 I2
                      exact ihi (x + 1) _ _ (by omega) (by omega) (uZ_b hg2 (by omega)) I1 I2 (by omega)
                  · refine J_aload_n (pc1 := 79) rfl (i := 0) rfl dX8_learnRounds_78 rfl ?_
                    refine J_iload_n (pc1 := 80) rfl (i := 1) rfl dX8_learnRounds_79 rfl ?_
                    refine J_iconst (pc1 := 81) dX8_learnRounds_80 rfl ?_
                    refine J_isub (pc1 := 82) dX8_learnRounds_81 rfl ?_
                    refine J_nm (fun z13 hz13 => ?_)
                    obtain rfl : z13 = (k : Int) := by omega
                    refine J_iload_n (pc1 := 83) rfl (i := 3) rfl dX8_learnRounds_82 rfl ?_
                    refine J_iconst (pc1 := 84) dX8_learnRounds_83 rfl ?_
                    refine J_idiv (pc1 := 85) (by omega) (by omega) (by omega) (by omega) dX8_learnRounds_84 rfl ?_
                    refine J_aload_n (pc1 := 86) rfl (i := 0) rfl dX8_learnRounds_85 rfl ?_
                    refine J_get (pc1 := 89) (j := 4) inUX8 (ci := 8) rfl (by decide) lf_X8_31 dX8_learnRounds_86 rfl T2.1 rfl ?_
                    refine J_iload (pc1 := 91) rfl dX8_learnRounds_89 rfl ?_
                    refine J_iald (pc1 := 92) dX8_learnRounds_91 rfl T2.2.1 (by omega) (by omega) (by omega) ?_
                    refine J_aload_n (pc1 := 93) rfl (i := 0) rfl dX8_learnRounds_92 rfl ?_
                    refine J_get (pc1 := 96) (j := 5) inUX8 (ci := 8) rfl (by decide) lf_X8_35 dX8_learnRounds_93 rfl T2.1 rfl ?_
                    refine J_iload (pc1 := 98) rfl dX8_learnRounds_96 rfl ?_
                    refine J_iald (pc1 := 99) dX8_learnRounds_98 rfl T2.2.2.1 (by omega) (by omega) (by omega) ?_
                    have hq : bidP ti ps (PL ps top w g k) (r / 2) (ogF ps top x) (fgF ps top x) ↔ fc E ti ps (k + 1) (r / 2) (ogF ps top x) (fgF ps top x) (r % 2) := by
                      rw [show r % 2 = 1 by omega, ← stP_1 (E := E) (by omega)]
                      exact IB_st T.2.2.2.2.2 hI s1
                    refine J_callVI (pc1 := 102) (As := [.int (iI (k : Int)), .int (iI (r / 2)), .int (iI (ogF ps top x)), .int (iI (fgF ps top x))]) gv_X8_45 yv_X8_bidForces rfl (c_X8_bidForces T2 s1 (by omega) (by omega)) dX8_learnRounds_99 rfl T2.1 rfl rfl (by omega) (by decide) (Nat.zero_le _) (Nat.zero_le _) (Nat.le_of_ble_eq_true rfl) ?_
                    rw [bC_c hq]
                    refine J_goto (tgt := 129) dX8_learnRounds_102 rfl ?_
                    refine J_istore (pc1 := 131) (L1 := [some (.ref t), some (.int (iI ((k : Int) + 1))), some (.int (iI (bC M))), some (.int (iI r)), some (.int (iI x)), some (.int (iI z11)), some (.int (iI (bC (fc E ti ps (k + 1) (r / 2) (ogF ps top x) (fgF ps top x) (r % 2)))))]) dX8_learnRounds_129 rfl (by decide) rfl rfl ?_
                    refine J_aload_n (pc1 := 132) rfl (i := 0) rfl dX8_learnRounds_131 rfl ?_
                    refine J_get (pc1 := 135) (j := 6) inUX8 (ci := 8) rfl (by decide) lf_X8_38 dX8_learnRounds_132 rfl T2.1 rfl ?_
                    refine J_iload (pc1 := 137) rfl dX8_learnRounds_135 rfl ?_
                    refine J_iload (pc1 := 139) rfl dX8_learnRounds_137 rfl ?_
                    refine J_if_eq (pc1 := 142) (tgt := 146) (bC_lo _) (bC_hi _) dX8_learnRounds_139 rfl rfl (fun h7 => ?_) (fun h7 => ?_)
                    · refine J_bipush (pc1 := 148) (by decide) dX8_learnRounds_146 rfl ?_
                      refine J_iast (pc1 := 149) dX8_learnRounds_148 rfl T2.2.2.2.1 (by omega) (by omega) (by omega) ?_
                      rw [pu_pu]
                      refine J_iload_n (pc1 := 150) rfl (i := 2) rfl dX8_learnRounds_149 rfl ?_
                      refine J_iload (pc1 := 152) rfl dX8_learnRounds_150 rfl ?_
                      refine J_iorC (pc1 := 153) dX8_learnRounds_152 rfl ?_
                      refine J_istore_n (pc1 := 154) (L1 := [some (.ref t), some (.int (iI ((k : Int) + 1))), some (.int (iI (bC (M ∨ (fc E ti ps (k + 1) (r / 2) (ogF ps top x) (fgF ps top x) (r % 2)))))), some (.int (iI r)), some (.int (iI x)), some (.int (iI z11)), some (.int (iI (bC (fc E ti ps (k + 1) (r / 2) (ogF ps top x) (fgF ps top x) (r % 2)))))]) rfl (i := 2) dX8_learnRounds_153 rfl (by decide) rfl rfl ?_
                      refine J_iinc (pc1 := 157) (L1 := [some (.ref t), some (.int (iI ((k : Int) + 1))), some (.int (iI (bC (M ∨ (fc E ti ps (k + 1) (r / 2) (ogF ps top x) (fgF ps top x) (r % 2)))))), some (.int (iI r)), some (.int (iI (x + 1))), some (.int (iI z11)), some (.int (iI (bC (fc E ti ps (k + 1) (r / 2) (ogF ps top x) (fgF ps top x) (r % 2)))))]) dX8_learnRounds_154 rfl rfl (by decide) rfl rfl ?_
                      refine J_goto (tgt := 17) dX8_learnRounds_157 rfl ?_
                      refine J_sub (L1 := [some (.ref t), some (.int (iI ((k : Int) + 1))), some (.int (iI (bC (M ∨ (fc E ti ps (k + 1) (r / 2) (ogF ps top x) (fgF ps top x) (r % 2)))))), some (.int (iI r)), some (.int (iI (x + 1))), none, none]) ⟨rfl, rfl, rfl, rfl, rfl, trivial⟩ ?_
                      obtain ⟨I1, I2⟩ := IB_set (v := 9) T.2.2.2.2.2 (by omega) (r := r) (x := x) (by omega) (by omega) hz11 hI hM (by assumption) Iff.rfl (by first | exact Or.inl ⟨rfl, bC_1 (by assumption)⟩ | exact Or.inr ⟨rfl, bC_0 (by assumption)⟩)
                      rw [show z11 + 1 = r * w + (x + 1) by omega] at I1 I2
                      exact ihi (x + 1) _ _ (by omega) (by omega) (uZ_b hg2 (by omega)) I1 I2 (by omega)
                    · refine J_iload_n (pc1 := 143) rfl (i := 1) rfl dX8_learnRounds_142 rfl ?_
                      refine J_goto (tgt := 148) dX8_learnRounds_143 rfl ?_
                      refine J_iast (pc1 := 149) dX8_learnRounds_148 rfl T2.2.2.2.1 (by omega) (by omega) (by omega) ?_
                      rw [pu_pu]
                      refine J_iload_n (pc1 := 150) rfl (i := 2) rfl dX8_learnRounds_149 rfl ?_
                      refine J_iload (pc1 := 152) rfl dX8_learnRounds_150 rfl ?_
                      refine J_iorC (pc1 := 153) dX8_learnRounds_152 rfl ?_
                      refine J_istore_n (pc1 := 154) (L1 := [some (.ref t), some (.int (iI ((k : Int) + 1))), some (.int (iI (bC (M ∨ (fc E ti ps (k + 1) (r / 2) (ogF ps top x) (fgF ps top x) (r % 2)))))), some (.int (iI r)), some (.int (iI x)), some (.int (iI z11)), some (.int (iI (bC (fc E ti ps (k + 1) (r / 2) (ogF ps top x) (fgF ps top x) (r % 2)))))]) rfl (i := 2) dX8_learnRounds_153 rfl (by decide) rfl rfl ?_
                      refine J_iinc (pc1 := 157) (L1 := [some (.ref t), some (.int (iI ((k : Int) + 1))), some (.int (iI (bC (M ∨ (fc E ti ps (k + 1) (r / 2) (ogF ps top x) (fgF ps top x) (r % 2)))))), some (.int (iI r)), some (.int (iI (x + 1))), some (.int (iI z11)), some (.int (iI (bC (fc E ti ps (k + 1) (r / 2) (ogF ps top x) (fgF ps top x) (r % 2)))))]) dX8_learnRounds_154 rfl rfl (by decide) rfl rfl ?_
                      refine J_goto (tgt := 17) dX8_learnRounds_157 rfl ?_
                      refine J_sub (L1 := [some (.ref t), some (.int (iI ((k : Int) + 1))), some (.int (iI (bC (M ∨ (fc E ti ps (k + 1) (r / 2) (ogF ps top x) (fgF ps top x) (r % 2)))))), some (.int (iI r)), some (.int (iI (x + 1))), none, none]) ⟨rfl, rfl, rfl, rfl, rfl, trivial⟩ ?_
                      obtain ⟨I1, I2⟩ := IB_set (v := ((k : Int) + 1)) T.2.2.2.2.2 (by omega) (r := r) (x := x) (by omega) (by omega) hz11 hI hM (by assumption) Iff.rfl (by first | exact Or.inl ⟨rfl, bC_1 (by assumption)⟩ | exact Or.inr ⟨rfl, bC_0 (by assumption)⟩)
                      rw [show z11 + 1 = r * w + (x + 1) by omega] at I1 I2
                      exact ihi (x + 1) _ _ (by omega) (by omega) (uZ_b hg2 (by omega)) I1 I2 (by omega)
      refine J_iload_n (pc1 := 5) rfl (i := 3) rfl dX8_learnRounds_4 rfl ?_
      refine J_iconst (pc1 := 6) dX8_learnRounds_5 rfl ?_
      refine J_aload_n (pc1 := 7) rfl (i := 0) rfl dX8_learnRounds_6 rfl ?_
      refine J_get (pc1 := 10) (j := 0) inUX8 (ci := 8) rfl (by decide) lf_X8_9 dX8_learnRounds_7 rfl T2.1 rfl ?_
      refine J_imul (pc1 := 11) dX8_learnRounds_10 rfl ?_
      refine J_icmp_ge (pc1 := 14) (tgt := 166) (by omega) (by omega) (by omega) (by omega) dX8_learnRounds_11 rfl rfl (fun h8 => ?_) (fun h8 => ?_)
      · refine J_iload_n (pc1 := 167) rfl (i := 2) rfl dX8_learnRounds_166 rfl ?_
        exact J_iret rfl (nar_bC _) dX8_learnRounds_167 (Nat.le_refl _) (Nat.le_refl _) (⟨M, g, rfl, rfl, hg2, IB_end T.2.2.2.2.2 hk ((show r = 4 * E by omega) ▸ hI) ((show r = 4 * E by omega) ▸ hM)⟩)
      · refine J_iconst (pc1 := 15) dX8_learnRounds_14 rfl ?_
        refine J_istore (pc1 := 17) (L1 := [some (.ref t), some (.int (iI ((k : Int) + 1))), some (.int (iI (bC M))), some (.int (iI r)), some (.int (iI 0)), none, none]) dX8_learnRounds_15 rfl (by decide) rfl rfl ?_
        have e9 : r * (w : Int) + 0 = r * w := Int.add_zero _
        exact LPi (by omega) (w + 1) 0 g M (by omega) (by omega) hg2 (by rw [e9]; exact hI) (by rw [e9]; exact hM) (by omega)
  refine J_iconst (pc1 := 1) dX8_learnRounds_0 rfl ?_
  refine J_istore_n (pc1 := 2) (L1 := [some (.ref t), some (.int (iI ((k : Int) + 1))), some (.int (iI 0)), none, none, none, none]) rfl (i := 2) dX8_learnRounds_1 rfl (by decide) rfl rfl ?_
  refine J_iconst (pc1 := 3) dX8_learnRounds_2 rfl ?_
  refine J_istore_n (pc1 := 4) (L1 := [some (.ref t), some (.int (iI ((k : Int) + 1))), some (.int (iI 0)), some (.int (iI 2)), none, none, none]) rfl (i := 3) dX8_learnRounds_3 rfl (by decide) rfl rfl ?_
  refine J_S (S1 := pu S tm (aI n tg)) (pu_id T.2.2.2.1).symm ?_
  refine J_L (L1 := [some (.ref t), some (.int (iI ((k : Int) + 1))), some (.int (iI (bC False))), some (.int (iI 2)), none, none, none]) (by rw [bC_f id]) ?_
  exact LPo (4 * E + 1).toNat 2 tg False (by omega) (by omega) hg (IB_start T.2.2.2.2.2 hk ha) (MO_start T.2.2.2.2.2) (by omega)
end
