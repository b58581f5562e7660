section
-- ===== PART A: goes FIRST, ahead of the names: the tables' words, and 'selects' of the private methods out of them =====
/-- a private method of a class that the tables say can be made, by its rows of tables_1 -/
def lw_okq (q : MethodName × Nat) : Prop := (q.1.cls ≠ "java/lang/invoke/MethodHandle" ∧ q.1.cls ≠ "java/lang/invoke/VarHandle") ∧ Cond.instantiable q.1.cls q.2 ∈ tables_1 ∧ Cond.privateMethod q.1 ∈ tables_1 ∧ Cond.instanceMethod q.1 ∈ tables_1
theorem lw_p0 : lw_okq (⟨"BorrowedHours$History", "dropOldest", "()V"⟩, 2) := ⟨⟨by decide +kernel, by decide +kernel⟩, List.mem_of_getElem? (i := 104) (by decide +kernel), List.mem_of_getElem? (i := 232) (by decide +kernel), List.mem_of_getElem? (i := 233) (by decide +kernel)⟩
theorem lw_p1 : lw_okq (⟨"BorrowedHours", "timesNow", "()LBorrowedHours$Times;"⟩, 8) := ⟨⟨by decide +kernel, by decide +kernel⟩, List.mem_of_getElem? (i := 14) (by decide +kernel), List.mem_of_getElem? (i := 302) (by decide +kernel), List.mem_of_getElem? (i := 303) (by decide +kernel)⟩
theorem lw_p2 : lw_okq (⟨"BorrowedHours$Times", "learnRounds", "(I)Z"⟩, 7) := ⟨⟨by decide +kernel, by decide +kernel⟩, List.mem_of_getElem? (i := 316) (by decide +kernel), List.mem_of_getElem? (i := 349) (by decide +kernel), List.mem_of_getElem? (i := 350) (by decide +kernel)⟩
theorem lw_p3 : lw_okq (⟨"BorrowedHours$Times", "bidForces", "(IIII)Z"⟩, 7) := ⟨⟨by decide +kernel, by decide +kernel⟩, List.mem_of_getElem? (i := 316) (by decide +kernel), List.mem_of_getElem? (i := 353) (by decide +kernel), List.mem_of_getElem? (i := 354) (by decide +kernel)⟩
theorem lw_p4 : lw_okq (⟨"BorrowedHours$Times", "lost", "(IIIIIZ)Z"⟩, 7) := ⟨⟨by decide +kernel, by decide +kernel⟩, List.mem_of_getElem? (i := 316) (by decide +kernel), List.mem_of_getElem? (i := 357) (by decide +kernel), List.mem_of_getElem? (i := 358) (by decide +kernel)⟩
theorem lw_p5 : lw_okq (⟨"BorrowedHours$Times", "neverTakes", "(I)Z"⟩, 7) := ⟨⟨by decide +kernel, by decide +kernel⟩, List.mem_of_getElem? (i := 316) (by decide +kernel), List.mem_of_getElem? (i := 365) (by decide +kernel), List.mem_of_getElem? (i := 366) (by decide +kernel)⟩
theorem lw_p6 : lw_okq (⟨"BorrowedHours$Times", "taken", "(IIIIIZ)Z"⟩, 7) := ⟨⟨by decide +kernel, by decide +kernel⟩, List.mem_of_getElem? (i := 316) (by decide +kernel), List.mem_of_getElem? (i := 369) (by decide +kernel), List.mem_of_getElem? (i := 370) (by decide +kernel)⟩
theorem lw_p7 : lw_okq (⟨"BorrowedHours$Times", "answerForces", "(IIII)Z"⟩, 7) := ⟨⟨by decide +kernel, by decide +kernel⟩, List.mem_of_getElem? (i := 316) (by decide +kernel), List.mem_of_getElem? (i := 373) (by decide +kernel), List.mem_of_getElem? (i := 374) (by decide +kernel)⟩
theorem lw_p8 : lw_okq (⟨"BorrowedHours$Advice", "longestOwn", "(LBorrowedHours$Times;I)I"⟩, 1) := ⟨⟨by decide +kernel, by decide +kernel⟩, List.mem_of_getElem? (i := 163) (by decide +kernel), List.mem_of_getElem? (i := 382) (by decide +kernel), List.mem_of_getElem? (i := 383) (by decide +kernel)⟩
theorem lw_p9 : lw_okq (⟨"BorrowedHours$Advice", "timeBehind", "(LBorrowedHours$Times;III)I"⟩, 1) := ⟨⟨by decide +kernel, by decide +kernel⟩, List.mem_of_getElem? (i := 163) (by decide +kernel), List.mem_of_getElem? (i := 386) (by decide +kernel), List.mem_of_getElem? (i := 387) (by decide +kernel)⟩
theorem lw_p10 : lw_okq (⟨"BorrowedHours$Advice", "findDelay", "(LBorrowedHours$Times;)I"⟩, 1) := ⟨⟨by decide +kernel, by decide +kernel⟩, List.mem_of_getElem? (i := 163) (by decide +kernel), List.mem_of_getElem? (i := 398) (by decide +kernel), List.mem_of_getElem? (i := 399) (by decide +kernel)⟩
theorem lw_p11 : lw_okq (⟨"BorrowedHours$Advice", "leastOther", "(LBorrowedHours$Times;I)I"⟩, 1) := ⟨⟨by decide +kernel, by decide +kernel⟩, List.mem_of_getElem? (i := 163) (by decide +kernel), List.mem_of_getElem? (i := 402) (by decide +kernel), List.mem_of_getElem? (i := 403) (by decide +kernel)⟩
theorem lw_p12 : lw_okq (⟨"BorrowedHours", "playPad", "()I"⟩, 8) := ⟨⟨by decide +kernel, by decide +kernel⟩, List.mem_of_getElem? (i := 14) (by decide +kernel), List.mem_of_getElem? (i := 426) (by decide +kernel), List.mem_of_getElem? (i := 427) (by decide +kernel)⟩
theorem lw_p13 : lw_okq (⟨"BorrowedHours", "timeWith", "(II)I"⟩, 8) := ⟨⟨by decide +kernel, by decide +kernel⟩, List.mem_of_getElem? (i := 14) (by decide +kernel), List.mem_of_getElem? (i := 443) (by decide +kernel), List.mem_of_getElem? (i := 444) (by decide +kernel)⟩
theorem lw_p14 : lw_okq (⟨"BorrowedHours$Foresight", "seesWin", "(IIIIZ)Z"⟩, 1) := ⟨⟨by decide +kernel, by decide +kernel⟩, List.mem_of_getElem? (i := 173) (by decide +kernel), List.mem_of_getElem? (i := 469) (by decide +kernel), List.mem_of_getElem? (i := 470) (by decide +kernel)⟩
theorem lw_p15 : lw_okq (⟨"BorrowedHours$Foresight", "seesBid", "(IIII)Z"⟩, 1) := ⟨⟨by decide +kernel, by decide +kernel⟩, List.mem_of_getElem? (i := 173) (by decide +kernel), List.mem_of_getElem? (i := 473) (by decide +kernel), List.mem_of_getElem? (i := 474) (by decide +kernel)⟩
def lw_privs_1 : List (MethodName × Nat) := [(⟨"BorrowedHours$History", "dropOldest", "()V"⟩, 2), (⟨"BorrowedHours", "timesNow", "()LBorrowedHours$Times;"⟩, 8), (⟨"BorrowedHours$Times", "learnRounds", "(I)Z"⟩, 7), (⟨"BorrowedHours$Times", "bidForces", "(IIII)Z"⟩, 7), (⟨"BorrowedHours$Times", "lost", "(IIIIIZ)Z"⟩, 7), (⟨"BorrowedHours$Times", "neverTakes", "(I)Z"⟩, 7), (⟨"BorrowedHours$Times", "taken", "(IIIIIZ)Z"⟩, 7), (⟨"BorrowedHours$Times", "answerForces", "(IIII)Z"⟩, 7), (⟨"BorrowedHours$Advice", "longestOwn", "(LBorrowedHours$Times;I)I"⟩, 1), (⟨"BorrowedHours$Advice", "timeBehind", "(LBorrowedHours$Times;III)I"⟩, 1), (⟨"BorrowedHours$Advice", "findDelay", "(LBorrowedHours$Times;)I"⟩, 1), (⟨"BorrowedHours$Advice", "leastOther", "(LBorrowedHours$Times;I)I"⟩, 1), (⟨"BorrowedHours", "playPad", "()I"⟩, 8), (⟨"BorrowedHours", "timeWith", "(II)I"⟩, 8), (⟨"BorrowedHours$Foresight", "seesWin", "(IIIIZ)Z"⟩, 1), (⟨"BorrowedHours$Foresight", "seesBid", "(IIII)Z"⟩, 1)]
theorem lw_r1 : ∀ q ∈ lw_privs_1, lw_okq q := List.forall_mem_cons.mpr ⟨lw_p0, List.forall_mem_cons.mpr ⟨lw_p1, List.forall_mem_cons.mpr ⟨lw_p2, List.forall_mem_cons.mpr ⟨lw_p3, List.forall_mem_cons.mpr ⟨lw_p4, List.forall_mem_cons.mpr ⟨lw_p5, List.forall_mem_cons.mpr ⟨lw_p6, List.forall_mem_cons.mpr ⟨lw_p7, List.forall_mem_cons.mpr ⟨lw_p8, List.forall_mem_cons.mpr ⟨lw_p9, List.forall_mem_cons.mpr ⟨lw_p10, List.forall_mem_cons.mpr ⟨lw_p11, List.forall_mem_cons.mpr ⟨lw_p12, List.forall_mem_cons.mpr ⟨lw_p13, List.forall_mem_cons.mpr ⟨lw_p14, List.forall_mem_cons.mpr ⟨lw_p15, fun _ h => absurd h List.not_mem_nil⟩⟩⟩⟩⟩⟩⟩⟩⟩⟩⟩⟩⟩⟩⟩⟩
theorem lw_p16 : lw_okq (⟨"BorrowedHours$Foresight", "standsAllAnswers", "(IIIII)Z"⟩, 1) := ⟨⟨by decide +kernel, by decide +kernel⟩, List.mem_of_getElem? (i := 173) (by decide +kernel), List.mem_of_getElem? (i := 477) (by decide +kernel), List.mem_of_getElem? (i := 478) (by decide +kernel)⟩
theorem lw_p17 : lw_okq (⟨"BorrowedHours$Foresight", "canTake", "(I)Z"⟩, 1) := ⟨⟨by decide +kernel, by decide +kernel⟩, List.mem_of_getElem? (i := 173) (by decide +kernel), List.mem_of_getElem? (i := 481) (by decide +kernel), List.mem_of_getElem? (i := 482) (by decide +kernel)⟩
theorem lw_p18 : lw_okq (⟨"BorrowedHours$Foresight", "seesTaken", "(IIIIIZ)Z"⟩, 1) := ⟨⟨by decide +kernel, by decide +kernel⟩, List.mem_of_getElem? (i := 173) (by decide +kernel), List.mem_of_getElem? (i := 485) (by decide +kernel), List.mem_of_getElem? (i := 486) (by decide +kernel)⟩
theorem lw_p19 : lw_okq (⟨"BorrowedHours$Foresight", "leastTaking", "(I)I"⟩, 1) := ⟨⟨by decide +kernel, by decide +kernel⟩, List.mem_of_getElem? (i := 173) (by decide +kernel), List.mem_of_getElem? (i := 490) (by decide +kernel), List.mem_of_getElem? (i := 491) (by decide +kernel)⟩
theorem lw_p20 : lw_okq (⟨"BorrowedHours$Foresight", "seesLost", "(IIIIIZ)Z"⟩, 1) := ⟨⟨by decide +kernel, by decide +kernel⟩, List.mem_of_getElem? (i := 173) (by decide +kernel), List.mem_of_getElem? (i := 494) (by decide +kernel), List.mem_of_getElem? (i := 495) (by decide +kernel)⟩
theorem lw_p21 : lw_okq (⟨"BorrowedHours$Foresight", "seesAnswers", "(IIII)Z"⟩, 1) := ⟨⟨by decide +kernel, by decide +kernel⟩, List.mem_of_getElem? (i := 173) (by decide +kernel), List.mem_of_getElem? (i := 498) (by decide +kernel), List.mem_of_getElem? (i := 499) (by decide +kernel)⟩
theorem lw_p22 : lw_okq (⟨"BorrowedHours$Foresight", "hasAnswer", "(IIIII)Z"⟩, 1) := ⟨⟨by decide +kernel, by decide +kernel⟩, List.mem_of_getElem? (i := 173) (by decide +kernel), List.mem_of_getElem? (i := 502) (by decide +kernel), List.mem_of_getElem? (i := 503) (by decide +kernel)⟩
theorem lw_p23 : lw_okq (⟨"BorrowedHours", "slotOf", "(I)LBorrowedHours$Slot;"⟩, 8) := ⟨⟨by decide +kernel, by decide +kernel⟩, List.mem_of_getElem? (i := 14) (by decide +kernel), List.mem_of_getElem? (i := 561) (by decide +kernel), List.mem_of_getElem? (i := 562) (by decide +kernel)⟩
theorem lw_p24 : lw_okq (⟨"BorrowedHoursModel", "newGame", "()V"⟩, 15) := ⟨⟨by decide +kernel, by decide +kernel⟩, List.mem_of_getElem? (i := 570) (by decide +kernel), List.mem_of_getElem? (i := 576) (by decide +kernel), List.mem_of_getElem? (i := 577) (by decide +kernel)⟩
theorem lw_p25 : lw_okq (⟨"BorrowedHoursModel", "changes", "()V"⟩, 15) := ⟨⟨by decide +kernel, by decide +kernel⟩, List.mem_of_getElem? (i := 570) (by decide +kernel), List.mem_of_getElem? (i := 638) (by decide +kernel), List.mem_of_getElem? (i := 639) (by decide +kernel)⟩
theorem lw_p26 : lw_okq (⟨"BorrowedHoursModel", "canPlay", "(II)Z"⟩, 15) := ⟨⟨by decide +kernel, by decide +kernel⟩, List.mem_of_getElem? (i := 570) (by decide +kernel), List.mem_of_getElem? (i := 652) (by decide +kernel), List.mem_of_getElem? (i := 653) (by decide +kernel)⟩
theorem lw_p27 : lw_okq (⟨"BorrowedHoursModel", "isOver", "()Z"⟩, 15) := ⟨⟨by decide +kernel, by decide +kernel⟩, List.mem_of_getElem? (i := 570) (by decide +kernel), List.mem_of_getElem? (i := 656) (by decide +kernel), List.mem_of_getElem? (i := 657) (by decide +kernel)⟩
theorem lw_p28 : lw_okq (⟨"BorrowedHoursModel", "winnerAt", "(I)I"⟩, 15) := ⟨⟨by decide +kernel, by decide +kernel⟩, List.mem_of_getElem? (i := 570) (by decide +kernel), List.mem_of_getElem? (i := 660) (by decide +kernel), List.mem_of_getElem? (i := 661) (by decide +kernel)⟩
theorem lw_p29 : lw_okq (⟨"BorrowedHoursModel", "most", "(I)I"⟩, 15) := ⟨⟨by decide +kernel, by decide +kernel⟩, List.mem_of_getElem? (i := 570) (by decide +kernel), List.mem_of_getElem? (i := 664) (by decide +kernel), List.mem_of_getElem? (i := 665) (by decide +kernel)⟩
theorem lw_p30 : lw_okq (⟨"BorrowedHoursModel", "plays", "(II)I"⟩, 15) := ⟨⟨by decide +kernel, by decide +kernel⟩, List.mem_of_getElem? (i := 570) (by decide +kernel), List.mem_of_getElem? (i := 668) (by decide +kernel), List.mem_of_getElem? (i := 669) (by decide +kernel)⟩
theorem lw_p31 : lw_okq (⟨"BorrowedHoursModel", "taker", "(III)I"⟩, 15) := ⟨⟨by decide +kernel, by decide +kernel⟩, List.mem_of_getElem? (i := 570) (by decide +kernel), List.mem_of_getElem? (i := 672) (by decide +kernel), List.mem_of_getElem? (i := 673) (by decide +kernel)⟩
def lw_privs_2 : List (MethodName × Nat) := [(⟨"BorrowedHours$Foresight", "standsAllAnswers", "(IIIII)Z"⟩, 1), (⟨"BorrowedHours$Foresight", "canTake", "(I)Z"⟩, 1), (⟨"BorrowedHours$Foresight", "seesTaken", "(IIIIIZ)Z"⟩, 1), (⟨"BorrowedHours$Foresight", "leastTaking", "(I)I"⟩, 1), (⟨"BorrowedHours$Foresight", "seesLost", "(IIIIIZ)Z"⟩, 1), (⟨"BorrowedHours$Foresight", "seesAnswers", "(IIII)Z"⟩, 1), (⟨"BorrowedHours$Foresight", "hasAnswer", "(IIIII)Z"⟩, 1), (⟨"BorrowedHours", "slotOf", "(I)LBorrowedHours$Slot;"⟩, 8), (⟨"BorrowedHoursModel", "newGame", "()V"⟩, 15), (⟨"BorrowedHoursModel", "changes", "()V"⟩, 15), (⟨"BorrowedHoursModel", "canPlay", "(II)Z"⟩, 15), (⟨"BorrowedHoursModel", "isOver", "()Z"⟩, 15), (⟨"BorrowedHoursModel", "winnerAt", "(I)I"⟩, 15), (⟨"BorrowedHoursModel", "most", "(I)I"⟩, 15), (⟨"BorrowedHoursModel", "plays", "(II)I"⟩, 15), (⟨"BorrowedHoursModel", "taker", "(III)I"⟩, 15)]
theorem lw_r2 : ∀ q ∈ lw_privs_2, lw_okq q := List.forall_mem_cons.mpr ⟨lw_p16, List.forall_mem_cons.mpr ⟨lw_p17, List.forall_mem_cons.mpr ⟨lw_p18, List.forall_mem_cons.mpr ⟨lw_p19, List.forall_mem_cons.mpr ⟨lw_p20, List.forall_mem_cons.mpr ⟨lw_p21, List.forall_mem_cons.mpr ⟨lw_p22, List.forall_mem_cons.mpr ⟨lw_p23, List.forall_mem_cons.mpr ⟨lw_p24, List.forall_mem_cons.mpr ⟨lw_p25, List.forall_mem_cons.mpr ⟨lw_p26, List.forall_mem_cons.mpr ⟨lw_p27, List.forall_mem_cons.mpr ⟨lw_p28, List.forall_mem_cons.mpr ⟨lw_p29, List.forall_mem_cons.mpr ⟨lw_p30, List.forall_mem_cons.mpr ⟨lw_p31, fun _ h => absurd h List.not_mem_nil⟩⟩⟩⟩⟩⟩⟩⟩⟩⟩⟩⟩⟩⟩⟩⟩
theorem lw_p32 : lw_okq (⟨"BorrowedHoursModel", "knows", "(I)V"⟩, 15) := ⟨⟨by decide +kernel, by decide +kernel⟩, List.mem_of_getElem? (i := 570) (by decide +kernel), List.mem_of_getElem? (i := 684) (by decide +kernel), List.mem_of_getElem? (i := 685) (by decide +kernel)⟩
theorem lw_p33 : lw_okq (⟨"BorrowedHoursModel", "worksOutAll", "(II)V"⟩, 15) := ⟨⟨by decide +kernel, by decide +kernel⟩, List.mem_of_getElem? (i := 570) (by decide +kernel), List.mem_of_getElem? (i := 688) (by decide +kernel), List.mem_of_getElem? (i := 689) (by decide +kernel)⟩
theorem lw_p34 : lw_okq (⟨"BorrowedHoursModel", "lowest", "()I"⟩, 15) := ⟨⟨by decide +kernel, by decide +kernel⟩, List.mem_of_getElem? (i := 570) (by decide +kernel), List.mem_of_getElem? (i := 692) (by decide +kernel), List.mem_of_getElem? (i := 693) (by decide +kernel)⟩
theorem lw_p35 : lw_okq (⟨"BorrowedHoursModel", "worksOut", "(III)V"⟩, 15) := ⟨⟨by decide +kernel, by decide +kernel⟩, List.mem_of_getElem? (i := 570) (by decide +kernel), List.mem_of_getElem? (i := 696) (by decide +kernel), List.mem_of_getElem? (i := 697) (by decide +kernel)⟩
theorem lw_p36 : lw_okq (⟨"BorrowedHoursModel", "canForce", "(IIIIII)Z"⟩, 15) := ⟨⟨by decide +kernel, by decide +kernel⟩, List.mem_of_getElem? (i := 570) (by decide +kernel), List.mem_of_getElem? (i := 703) (by decide +kernel), List.mem_of_getElem? (i := 704) (by decide +kernel)⟩
theorem lw_p37 : lw_okq (⟨"BorrowedHoursModel", "behind", "(IIIIIII)I"⟩, 15) := ⟨⟨by decide +kernel, by decide +kernel⟩, List.mem_of_getElem? (i := 570) (by decide +kernel), List.mem_of_getElem? (i := 707) (by decide +kernel), List.mem_of_getElem? (i := 708) (by decide +kernel)⟩
theorem lw_p38 : lw_okq (⟨"BorrowedHoursModel", "worstBehind", "(I)I"⟩, 15) := ⟨⟨by decide +kernel, by decide +kernel⟩, List.mem_of_getElem? (i := 570) (by decide +kernel), List.mem_of_getElem? (i := 711) (by decide +kernel), List.mem_of_getElem? (i := 712) (by decide +kernel)⟩
theorem lw_p39 : lw_okq (⟨"BorrowedHoursModel", "timeBehind", "(III)I"⟩, 15) := ⟨⟨by decide +kernel, by decide +kernel⟩, List.mem_of_getElem? (i := 570) (by decide +kernel), List.mem_of_getElem? (i := 715) (by decide +kernel), List.mem_of_getElem? (i := 716) (by decide +kernel)⟩
theorem lw_p40 : lw_okq (⟨"BorrowedHoursModel", "othersBehind", "(I)I"⟩, 15) := ⟨⟨by decide +kernel, by decide +kernel⟩, List.mem_of_getElem? (i := 570) (by decide +kernel), List.mem_of_getElem? (i := 719) (by decide +kernel), List.mem_of_getElem? (i := 720) (by decide +kernel)⟩
theorem lw_p41 : lw_okq (⟨"BorrowedHoursModel", "answerTo", "(I)I"⟩, 15) := ⟨⟨by decide +kernel, by decide +kernel⟩, List.mem_of_getElem? (i := 570) (by decide +kernel), List.mem_of_getElem? (i := 723) (by decide +kernel), List.mem_of_getElem? (i := 724) (by decide +kernel)⟩
theorem lw_p42 : lw_okq (⟨"BorrowedHoursModel", "timeOf", "(I)I"⟩, 15) := ⟨⟨by decide +kernel, by decide +kernel⟩, List.mem_of_getElem? (i := 570) (by decide +kernel), List.mem_of_getElem? (i := 734) (by decide +kernel), List.mem_of_getElem? (i := 735) (by decide +kernel)⟩
theorem lw_p43 : lw_okq (⟨"BorrowedHoursModel", "timeWith", "(III)I"⟩, 15) := ⟨⟨by decide +kernel, by decide +kernel⟩, List.mem_of_getElem? (i := 570) (by decide +kernel), List.mem_of_getElem? (i := 738) (by decide +kernel), List.mem_of_getElem? (i := 739) (by decide +kernel)⟩
theorem lw_p44 : lw_okq (⟨"BorrowedHoursModel", "readsRound", "()Z"⟩, 15) := ⟨⟨by decide +kernel, by decide +kernel⟩, List.mem_of_getElem? (i := 570) (by decide +kernel), List.mem_of_getElem? (i := 787) (by decide +kernel), List.mem_of_getElem? (i := 788) (by decide +kernel)⟩
theorem lw_p45 : lw_okq (⟨"BorrowedHoursModel", "readsBid", "()Z"⟩, 15) := ⟨⟨by decide +kernel, by decide +kernel⟩, List.mem_of_getElem? (i := 570) (by decide +kernel), List.mem_of_getElem? (i := 791) (by decide +kernel), List.mem_of_getElem? (i := 792) (by decide +kernel)⟩
theorem lw_p46 : lw_okq (⟨"BorrowedHoursModel", "isHere", "(II)Z"⟩, 15) := ⟨⟨by decide +kernel, by decide +kernel⟩, List.mem_of_getElem? (i := 570) (by decide +kernel), List.mem_of_getElem? (i := 795) (by decide +kernel), List.mem_of_getElem? (i := 796) (by decide +kernel)⟩
theorem lw_p47 : lw_okq (⟨"BorrowedHoursModel", "takesOne", "(I)Z"⟩, 15) := ⟨⟨by decide +kernel, by decide +kernel⟩, List.mem_of_getElem? (i := 570) (by decide +kernel), List.mem_of_getElem? (i := 799) (by decide +kernel), List.mem_of_getElem? (i := 800) (by decide +kernel)⟩
def lw_privs_3 : List (MethodName × Nat) := [(⟨"BorrowedHoursModel", "knows", "(I)V"⟩, 15), (⟨"BorrowedHoursModel", "worksOutAll", "(II)V"⟩, 15), (⟨"BorrowedHoursModel", "lowest", "()I"⟩, 15), (⟨"BorrowedHoursModel", "worksOut", "(III)V"⟩, 15), (⟨"BorrowedHoursModel", "canForce", "(IIIIII)Z"⟩, 15), (⟨"BorrowedHoursModel", "behind", "(IIIIIII)I"⟩, 15), (⟨"BorrowedHoursModel", "worstBehind", "(I)I"⟩, 15), (⟨"BorrowedHoursModel", "timeBehind", "(III)I"⟩, 15), (⟨"BorrowedHoursModel", "othersBehind", "(I)I"⟩, 15), (⟨"BorrowedHoursModel", "answerTo", "(I)I"⟩, 15), (⟨"BorrowedHoursModel", "timeOf", "(I)I"⟩, 15), (⟨"BorrowedHoursModel", "timeWith", "(III)I"⟩, 15), (⟨"BorrowedHoursModel", "readsRound", "()Z"⟩, 15), (⟨"BorrowedHoursModel", "readsBid", "()Z"⟩, 15), (⟨"BorrowedHoursModel", "isHere", "(II)Z"⟩, 15), (⟨"BorrowedHoursModel", "takesOne", "(I)Z"⟩, 15)]
theorem lw_r3 : ∀ q ∈ lw_privs_3, lw_okq q := List.forall_mem_cons.mpr ⟨lw_p32, List.forall_mem_cons.mpr ⟨lw_p33, List.forall_mem_cons.mpr ⟨lw_p34, List.forall_mem_cons.mpr ⟨lw_p35, List.forall_mem_cons.mpr ⟨lw_p36, List.forall_mem_cons.mpr ⟨lw_p37, List.forall_mem_cons.mpr ⟨lw_p38, List.forall_mem_cons.mpr ⟨lw_p39, List.forall_mem_cons.mpr ⟨lw_p40, List.forall_mem_cons.mpr ⟨lw_p41, List.forall_mem_cons.mpr ⟨lw_p42, List.forall_mem_cons.mpr ⟨lw_p43, List.forall_mem_cons.mpr ⟨lw_p44, List.forall_mem_cons.mpr ⟨lw_p45, List.forall_mem_cons.mpr ⟨lw_p46, List.forall_mem_cons.mpr ⟨lw_p47, fun _ h => absurd h List.not_mem_nil⟩⟩⟩⟩⟩⟩⟩⟩⟩⟩⟩⟩⟩⟩⟩⟩
def lw_privs : List (MethodName × Nat) := lw_privs_1 ++ (lw_privs_2 ++ (lw_privs_3))
def lw_tbl : List Cond := k2_sels lw_privs ++ tables_1
theorem lw_privs_ok : ∀ q ∈ lw_privs, lw_okq q := by
  show ∀ q ∈ lw_privs_1 ++ (lw_privs_2 ++ (lw_privs_3)), lw_okq q
  exact List.forall_mem_append.mpr ⟨lw_r1, List.forall_mem_append.mpr ⟨lw_r2, lw_r3⟩⟩
end
section
def RX0 : String := "BorrowedHours$Advice"
def TX0 : u_T := fun k => match k with
  | _ => ("BorrowedHours$Advice", "game", "LBorrowedHours$Game;", true)
def tyX0 : Nat → FieldType := fun k => match k with
  | _ => .object "BorrowedHours$Game"
theorem nmX0 : ∀ a, a < 1 → ∀ b, b < 1 → a ≠ b → (TX0 a).2.1 ≠ (TX0 b).2.1 := by decide +kernel
theorem tyX0_ok : ∀ k, k < 1 → parseFieldDescriptor (TX0 k).2.2.1 = some (tyX0 k) := by decide +kernel
abbrev cX0_init : ByteArray := prog_2_method_1_code
def yX0_init : MethodName := ⟨RX0, "<init>", "(LBorrowedHours$Game;)V"⟩
abbrev cX0_findBid : ByteArray := prog_2_method_2_code
def yX0_findBid : MethodName := ⟨RX0, "findBid", "(LBorrowedHours$Times;)I"⟩
abbrev cX0_findDelay : ByteArray := prog_2_method_3_code
def yX0_findDelay : MethodName := ⟨RX0, "findDelay", "(LBorrowedHours$Times;)I"⟩
abbrev cX0_findAnswer : ByteArray := prog_2_method_4_code
def yX0_findAnswer : MethodName := ⟨RX0, "findAnswer", "(LBorrowedHours$Times;I)I"⟩
abbrev cX0_countKeeping : ByteArray := prog_2_method_5_code
def yX0_countKeeping : MethodName := ⟨RX0, "countKeeping", "(LBorrowedHours$Times;)I"⟩
abbrev cX0_longestOwn : ByteArray := prog_2_method_6_code
def yX0_longestOwn : MethodName := ⟨RX0, "longestOwn", "(LBorrowedHours$Times;I)I"⟩
abbrev cX0_leastOther : ByteArray := prog_2_method_7_code
def yX0_leastOther : MethodName := ⟨RX0, "leastOther", "(LBorrowedHours$Times;I)I"⟩
abbrev cX0_timeBehind : ByteArray := prog_2_method_8_code
def yX0_timeBehind : MethodName := ⟨RX0, "timeBehind", "(LBorrowedHours$Times;III)I"⟩
def RX1 : String := "BorrowedHours$Foresight"
def TX1 : u_T := fun k => match k with
  | _ => ("BorrowedHours$Foresight", "game", "LBorrowedHours$Game;", true)
def tyX1 : Nat → FieldType := fun k => match k with
  | _ => .object "BorrowedHours$Game"
theorem nmX1 : ∀ a, a < 1 → ∀ b, b < 1 → a ≠ b → (TX1 a).2.1 ≠ (TX1 b).2.1 := by decide +kernel
theorem tyX1_ok : ∀ k, k < 1 → parseFieldDescriptor (TX1 k).2.2.1 = some (tyX1 k) := by decide +kernel
abbrev cX1_init : ByteArray := prog_3_method_1_code
def yX1_init : MethodName := ⟨RX1, "<init>", "(LBorrowedHours$Game;)V"⟩
abbrev cX1_seesWinOf : ByteArray := prog_3_method_2_code
def yX1_seesWinOf : MethodName := ⟨RX1, "seesWinOf", "(II)Z"⟩
abbrev cX1_seesWin : ByteArray := prog_3_method_3_code
def yX1_seesWin : MethodName := ⟨RX1, "seesWin", "(IIIIZ)Z"⟩
abbrev cX1_seesBid : ByteArray := prog_3_method_4_code
def yX1_seesBid : MethodName := ⟨RX1, "seesBid", "(IIII)Z"⟩
abbrev cX1_standsAllAnswers : ByteArray := prog_3_method_5_code
def yX1_standsAllAnswers : MethodName := ⟨RX1, "standsAllAnswers", "(IIIII)Z"⟩
abbrev cX1_seesAnswers : ByteArray := prog_3_method_6_code
def yX1_seesAnswers : MethodName := ⟨RX1, "seesAnswers", "(IIII)Z"⟩
abbrev cX1_hasAnswer : ByteArray := prog_3_method_7_code
def yX1_hasAnswer : MethodName := ⟨RX1, "hasAnswer", "(IIIII)Z"⟩
abbrev cX1_canTake : ByteArray := prog_3_method_8_code
def yX1_canTake : MethodName := ⟨RX1, "canTake", "(I)Z"⟩
abbrev cX1_leastTaking : ByteArray := prog_3_method_9_code
def yX1_leastTaking : MethodName := ⟨RX1, "leastTaking", "(I)I"⟩
abbrev cX1_seesTaken : ByteArray := prog_3_method_10_code
def yX1_seesTaken : MethodName := ⟨RX1, "seesTaken", "(IIIIIZ)Z"⟩
abbrev cX1_seesLost : ByteArray := prog_3_method_11_code
def yX1_seesLost : MethodName := ⟨RX1, "seesLost", "(IIIIIZ)Z"⟩
def RX2 : String := "BorrowedHours$Game"
def TX2 : u_T := fun k => match k with
  | 0 => ("BorrowedHours$Game", "end", "I", false)
  | 1 => ("BorrowedHours$Game", "loan", "I", false)
  | 2 => ("BorrowedHours$Game", "pays", "I", false)
  | 3 => ("BorrowedHours$Game", "tie", "I", false)
  | 4 => ("BorrowedHours$Game", "hand", "I", false)
  | 5 => ("BorrowedHours$Game", "first", "I", false)
  | 6 => ("BorrowedHours$Game", "rounds", "I", false)
  | 7 => ("BorrowedHours$Game", "clock", "I", false)
  | 8 => ("BorrowedHours$Game", "zero", "LBorrowedHours$Side;", true)
  | _ => ("BorrowedHours$Game", "one", "LBorrowedHours$Side;", true)
def tyX2 : Nat → FieldType := fun k => match k with
  | 0 => .int
  | 1 => .int
  | 2 => .int
  | 3 => .int
  | 4 => .int
  | 5 => .int
  | 6 => .int
  | 7 => .int
  | 8 => .object "BorrowedHours$Side"
  | _ => .object "BorrowedHours$Side"
theorem nmX2 : ∀ a, a < 10 → ∀ b, b < 10 → a ≠ b → (TX2 a).2.1 ≠ (TX2 b).2.1 := by decide +kernel
theorem tyX2_ok : ∀ k, k < 10 → parseFieldDescriptor (TX2 k).2.2.1 = some (tyX2 k) := by decide +kernel
abbrev cX2_init : ByteArray := prog_4_method_1_code
def yX2_init : MethodName := ⟨RX2, "<init>", "()V"⟩
abbrev cX2_copyFrom : ByteArray := prog_4_method_2_code
def yX2_copyFrom : MethodName := ⟨RX2, "copyFrom", "(LBorrowedHours$Game;)V"⟩
abbrev cX2_settingOf : ByteArray := prog_4_method_3_code
def yX2_settingOf : MethodName := ⟨RX2, "settingOf", "(I)I"⟩
abbrev cX2_changeSetting : ByteArray := prog_4_method_4_code
def yX2_changeSetting : MethodName := ⟨RX2, "changeSetting", "(II)V"⟩
abbrev cX2_startAnew : ByteArray := prog_4_method_5_code
def yX2_startAnew : MethodName := ⟨RX2, "startAnew", "()V"⟩
abbrev cX2_sideOf : ByteArray := prog_4_method_6_code
def yX2_sideOf : MethodName := ⟨RX2, "sideOf", "(I)LBorrowedHours$Side;"⟩
abbrev cX2_winner : ByteArray := prog_4_method_7_code
def yX2_winner : MethodName := ⟨RX2, "winner", "()I"⟩
abbrev cX2_isOver : ByteArray := prog_4_method_8_code
def yX2_isOver : MethodName := ⟨RX2, "isOver", "()Z"⟩
abbrev cX2_mostOf : ByteArray := prog_4_method_9_code
def yX2_mostOf : MethodName := ⟨RX2, "mostOf", "(I)I"⟩
abbrev cX2_toWin : ByteArray := prog_4_method_10_code
def yX2_toWin : MethodName := ⟨RX2, "toWin", "(I)I"⟩
abbrev cX2_gainOf : ByteArray := prog_4_method_11_code
def yX2_gainOf : MethodName := ⟨RX2, "gainOf", "(I)I"⟩
abbrev cX2_takerOf : ByteArray := prog_4_method_12_code
def yX2_takerOf : MethodName := ⟨RX2, "takerOf", "(II)I"⟩
abbrev cX2_allows : ByteArray := prog_4_method_13_code
def yX2_allows : MethodName := ⟨RX2, "allows", "(II)Z"⟩
abbrev cX2_playRound : ByteArray := prog_4_method_14_code
def yX2_playRound : MethodName := ⟨RX2, "playRound", "(II)I"⟩
def RX3 : String := "BorrowedHours$History"
def TX3 : u_T := fun k => match k with
  | 0 => ("BorrowedHours$History", "states", "[LBorrowedHours$Game;", true)
  | _ => ("BorrowedHours$History", "size", "I", false)
def tyX3 : Nat → FieldType := fun k => match k with
  | 0 => .array (.object "BorrowedHours$Game")
  | _ => .int
theorem nmX3 : ∀ a, a < 2 → ∀ b, b < 2 → a ≠ b → (TX3 a).2.1 ≠ (TX3 b).2.1 := by decide +kernel
theorem tyX3_ok : ∀ k, k < 2 → parseFieldDescriptor (TX3 k).2.2.1 = some (tyX3 k) := by decide +kernel
abbrev cX3_init : ByteArray := prog_5_method_1_code
def yX3_init : MethodName := ⟨RX3, "<init>", "()V"⟩
abbrev cX3_keepState : ByteArray := prog_5_method_2_code
def yX3_keepState : MethodName := ⟨RX3, "keepState", "(LBorrowedHours$Game;)V"⟩
abbrev cX3_dropOldest : ByteArray := prog_5_method_3_code
def yX3_dropOldest : MethodName := ⟨RX3, "dropOldest", "()V"⟩
abbrev cX3_takeBack : ByteArray := prog_5_method_4_code
def yX3_takeBack : MethodName := ⟨RX3, "takeBack", "(LBorrowedHours$Game;)V"⟩
def RX4 : String := "BorrowedHours$Memory"
def TX4 : u_T := fun k => match k with
  | _ => ("BorrowedHours$Memory", "tables", "[LBorrowedHours$Times;", true)
def tyX4 : Nat → FieldType := fun k => match k with
  | _ => .array (.object "BorrowedHours$Times")
theorem nmX4 : ∀ a, a < 1 → ∀ b, b < 1 → a ≠ b → (TX4 a).2.1 ≠ (TX4 b).2.1 := by decide +kernel
theorem tyX4_ok : ∀ k, k < 1 → parseFieldDescriptor (TX4 k).2.2.1 = some (tyX4 k) := by decide +kernel
abbrev cX4_init : ByteArray := prog_6_method_1_code
def yX4_init : MethodName := ⟨RX4, "<init>", "()V"⟩
abbrev cX4_tableFor : ByteArray := prog_6_method_2_code
def yX4_tableFor : MethodName := ⟨RX4, "tableFor", "(LBorrowedHours$Game;I)LBorrowedHours$Times;"⟩
def RX5 : String := "BorrowedHours$Pad"
def TX5 : u_T := fun k => match k with
  | 0 => ("BorrowedHours$Pad", "signs", "[I", true)
  | _ => ("BorrowedHours$Pad", "length", "I", false)
def tyX5 : Nat → FieldType := fun k => match k with
  | 0 => .array .int
  | _ => .int
theorem nmX5 : ∀ a, a < 2 → ∀ b, b < 2 → a ≠ b → (TX5 a).2.1 ≠ (TX5 b).2.1 := by decide +kernel
theorem tyX5_ok : ∀ k, k < 2 → parseFieldDescriptor (TX5 k).2.2.1 = some (tyX5 k) := by decide +kernel
abbrev cX5_init : ByteArray := prog_7_method_1_code
def yX5_init : MethodName := ⟨RX5, "<init>", "()V"⟩
abbrev cX5_countSigns : ByteArray := prog_7_method_2_code
def yX5_countSigns : MethodName := ⟨RX5, "countSigns", "(J)I"⟩
abbrev cX5_append : ByteArray := prog_7_method_3_code
def yX5_append : MethodName := ⟨RX5, "append", "(JI)V"⟩
abbrev cX5_clear : ByteArray := prog_7_method_4_code
def yX5_clear : MethodName := ⟨RX5, "clear", "()V"⟩
abbrev cX5_signAt : ByteArray := prog_7_method_5_code
def yX5_signAt : MethodName := ⟨RX5, "signAt", "(I)I"⟩
abbrev cX5_firstFault : ByteArray := prog_7_method_6_code
def yX5_firstFault : MethodName := ⟨RX5, "firstFault", "()I"⟩
abbrev cX5_canStandAsDigit : ByteArray := prog_7_method_7_code
def yX5_canStandAsDigit : MethodName := ⟨RX5, "canStandAsDigit", "(II)Z"⟩
def RX6 : String := "BorrowedHours$Side"
def TX6 : u_T := fun k => match k with
  | 0 => ("BorrowedHours$Side", "began", "I", false)
  | 1 => ("BorrowedHours$Side", "hours", "I", false)
  | 2 => ("BorrowedHours$Side", "paid", "I", false)
  | 3 => ("BorrowedHours$Side", "took", "I", false)
  | _ => ("BorrowedHours$Side", "won", "I", false)
def tyX6 : Nat → FieldType := fun k => match k with
  | 0 => .int
  | 1 => .int
  | 2 => .int
  | 3 => .int
  | _ => .int
theorem nmX6 : ∀ a, a < 5 → ∀ b, b < 5 → a ≠ b → (TX6 a).2.1 ≠ (TX6 b).2.1 := by decide +kernel
theorem tyX6_ok : ∀ k, k < 5 → parseFieldDescriptor (TX6 k).2.2.1 = some (tyX6 k) := by decide +kernel
abbrev cX6_init : ByteArray := prog_8_method_1_code
def yX6_init : MethodName := ⟨RX6, "<init>", "()V"⟩
abbrev cX6_copyFrom : ByteArray := prog_8_method_2_code
def yX6_copyFrom : MethodName := ⟨RX6, "copyFrom", "(LBorrowedHours$Side;)V"⟩
abbrev cX6_startAnew : ByteArray := prog_8_method_3_code
def yX6_startAnew : MethodName := ⟨RX6, "startAnew", "()V"⟩
def RX7 : String := "BorrowedHours$Slot"
def TX7 : u_T := fun k => match k with
  | 0 => ("BorrowedHours$Slot", "saved", "LBorrowedHours$Game;", true)
  | _ => ("BorrowedHours$Slot", "filled", "Z", false)
def tyX7 : Nat → FieldType := fun k => match k with
  | 0 => .object "BorrowedHours$Game"
  | _ => .boolean
theorem nmX7 : ∀ a, a < 2 → ∀ b, b < 2 → a ≠ b → (TX7 a).2.1 ≠ (TX7 b).2.1 := by decide +kernel
theorem tyX7_ok : ∀ k, k < 2 → parseFieldDescriptor (TX7 k).2.2.1 = some (tyX7 k) := by decide +kernel
abbrev cX7_init : ByteArray := prog_9_method_1_code
def yX7_init : MethodName := ⟨RX7, "<init>", "()V"⟩
def RX8 : String := "BorrowedHours$Times"
def TX8 : u_T := fun k => match k with
  | 0 => ("BorrowedHours$Times", "end", "I", true)
  | 1 => ("BorrowedHours$Times", "tie", "I", true)
  | 2 => ("BorrowedHours$Times", "sumStays", "Z", true)
  | 3 => ("BorrowedHours$Times", "top", "I", true)
  | 4 => ("BorrowedHours$Times", "owns", "[I", true)
  | 5 => ("BorrowedHours$Times", "foes", "[I", true)
  | _ => ("BorrowedHours$Times", "times", "[I", true)
def tyX8 : Nat → FieldType := fun k => match k with
  | 0 => .int
  | 1 => .int
  | 2 => .boolean
  | 3 => .int
  | 4 => .array .int
  | 5 => .array .int
  | _ => .array .int
theorem nmX8 : ∀ a, a < 7 → ∀ b, b < 7 → a ≠ b → (TX8 a).2.1 ≠ (TX8 b).2.1 := by decide +kernel
theorem tyX8_ok : ∀ k, k < 7 → parseFieldDescriptor (TX8 k).2.2.1 = some (tyX8 k) := by decide +kernel
abbrev cX8_init : ByteArray := prog_10_method_1_code
def yX8_init : MethodName := ⟨RX8, "<init>", "(IIZI)V"⟩
abbrev cX8_timeAt : ByteArray := prog_10_method_2_code
def yX8_timeAt : MethodName := ⟨RX8, "timeAt", "(IIIZ)I"⟩
abbrev cX8_learnAll : ByteArray := prog_10_method_3_code
def yX8_learnAll : MethodName := ⟨RX8, "learnAll", "()V"⟩
abbrev cX8_learnRounds : ByteArray := prog_10_method_4_code
def yX8_learnRounds : MethodName := ⟨RX8, "learnRounds", "(I)Z"⟩
abbrev cX8_bidForces : ByteArray := prog_10_method_5_code
def yX8_bidForces : MethodName := ⟨RX8, "bidForces", "(IIII)Z"⟩
abbrev cX8_answerForces : ByteArray := prog_10_method_6_code
def yX8_answerForces : MethodName := ⟨RX8, "answerForces", "(IIII)Z"⟩
abbrev cX8_neverTakes : ByteArray := prog_10_method_7_code
def yX8_neverTakes : MethodName := ⟨RX8, "neverTakes", "(I)Z"⟩
abbrev cX8_taken : ByteArray := prog_10_method_8_code
def yX8_taken : MethodName := ⟨RX8, "taken", "(IIIIIZ)Z"⟩
abbrev cX8_lost : ByteArray := prog_10_method_9_code
def yX8_lost : MethodName := ⟨RX8, "lost", "(IIIIIZ)Z"⟩
def RX9 : String := "BorrowedHours"
def TX9 : u_T := fun k => match k with
  | 0 => ("BorrowedHours", "game", "LBorrowedHours$Game;", true)
  | 1 => ("BorrowedHours", "history", "LBorrowedHours$History;", true)
  | 2 => ("BorrowedHours", "slotZero", "LBorrowedHours$Slot;", true)
  | 3 => ("BorrowedHours", "slotOne", "LBorrowedHours$Slot;", true)
  | 4 => ("BorrowedHours", "pad", "LBorrowedHours$Pad;", true)
  | 5 => ("BorrowedHours", "memory", "LBorrowedHours$Memory;", true)
  | 6 => ("BorrowedHours", "advice", "LBorrowedHours$Advice;", true)
  | _ => ("BorrowedHours", "foresight", "LBorrowedHours$Foresight;", true)
def tyX9 : Nat → FieldType := fun k => match k with
  | 0 => .object "BorrowedHours$Game"
  | 1 => .object "BorrowedHours$History"
  | 2 => .object "BorrowedHours$Slot"
  | 3 => .object "BorrowedHours$Slot"
  | 4 => .object "BorrowedHours$Pad"
  | 5 => .object "BorrowedHours$Memory"
  | 6 => .object "BorrowedHours$Advice"
  | _ => .object "BorrowedHours$Foresight"
theorem nmX9 : ∀ a, a < 8 → ∀ b, b < 8 → a ≠ b → (TX9 a).2.1 ≠ (TX9 b).2.1 := by decide +kernel
theorem tyX9_ok : ∀ k, k < 8 → parseFieldDescriptor (TX9 k).2.2.1 = some (tyX9 k) := by decide +kernel
abbrev cX9_init : ByteArray := prog_1_method_1_code
def yX9_init : MethodName := ⟨RX9, "<init>", "()V"⟩
abbrev cX9_set : ByteArray := prog_1_method_2_code
def yX9_set : MethodName := ⟨RX9, "set", "(II)I"⟩
abbrev cX9_begin : ByteArray := prog_1_method_3_code
def yX9_begin : MethodName := ⟨RX9, "begin", "(II)I"⟩
abbrev cX9_round : ByteArray := prog_1_method_4_code
def yX9_round : MethodName := ⟨RX9, "round", "(II)I"⟩
abbrev cX9_play : ByteArray := prog_1_method_5_code
def yX9_play : MethodName := ⟨RX9, "play", "()I"⟩
abbrev cX9_run : ByteArray := prog_1_method_6_code
def yX9_run : MethodName := ⟨RX9, "run", "()I"⟩
abbrev cX9_player : ByteArray := prog_1_method_7_code
def yX9_player : MethodName := ⟨RX9, "player", "(II)I"⟩
abbrev cX9_count : ByteArray := prog_1_method_8_code
def yX9_count : MethodName := ⟨RX9, "count", "(I)I"⟩
abbrev cX9_forced : ByteArray := prog_1_method_9_code
def yX9_forced : MethodName := ⟨RX9, "forced", "(II)I"⟩
abbrev cX9_ahead : ByteArray := prog_1_method_10_code
def yX9_ahead : MethodName := ⟨RX9, "ahead", "(II)I"⟩
abbrev cX9_bestBid : ByteArray := prog_1_method_11_code
def yX9_bestBid : MethodName := ⟨RX9, "bestBid", "()I"⟩
abbrev cX9_bestAnswer : ByteArray := prog_1_method_12_code
def yX9_bestAnswer : MethodName := ⟨RX9, "bestAnswer", "(I)I"⟩
abbrev cX9_keeps : ByteArray := prog_1_method_13_code
def yX9_keeps : MethodName := ⟨RX9, "keeps", "()I"⟩
abbrev cX9_leastHours : ByteArray := prog_1_method_14_code
def yX9_leastHours : MethodName := ⟨RX9, "leastHours", "(I)I"⟩
abbrev cX9_put : ByteArray := prog_1_method_15_code
def yX9_put : MethodName := ⟨RX9, "put", "(J)I"⟩
abbrev cX9_wipe : ByteArray := prog_1_method_16_code
def yX9_wipe : MethodName := ⟨RX9, "wipe", "()I"⟩
abbrev cX9_fault : ByteArray := prog_1_method_17_code
def yX9_fault : MethodName := ⟨RX9, "fault", "()I"⟩
abbrev cX9_undo : ByteArray := prog_1_method_18_code
def yX9_undo : MethodName := ⟨RX9, "undo", "()I"⟩
abbrev cX9_save : ByteArray := prog_1_method_19_code
def yX9_save : MethodName := ⟨RX9, "save", "(I)I"⟩
abbrev cX9_restore : ByteArray := prog_1_method_20_code
def yX9_restore : MethodName := ⟨RX9, "restore", "(I)I"⟩
abbrev cX9_isBetween : ByteArray := prog_1_method_21_code
def yX9_isBetween : MethodName := ⟨RX9, "isBetween", "(III)Z"⟩
abbrev cX9_isPlayer : ByteArray := prog_1_method_22_code
def yX9_isPlayer : MethodName := ⟨RX9, "isPlayer", "(I)Z"⟩
abbrev cX9_isSlot : ByteArray := prog_1_method_23_code
def yX9_isSlot : MethodName := ⟨RX9, "isSlot", "(I)Z"⟩
abbrev cX9_isSetting : ByteArray := prog_1_method_24_code
def yX9_isSetting : MethodName := ⟨RX9, "isSetting", "(I)Z"⟩
abbrev cX9_leastSetting : ByteArray := prog_1_method_25_code
def yX9_leastSetting : MethodName := ⟨RX9, "leastSetting", "(I)I"⟩
abbrev cX9_mostSetting : ByteArray := prog_1_method_26_code
def yX9_mostSetting : MethodName := ⟨RX9, "mostSetting", "(I)I"⟩
abbrev cX9_slotOf : ByteArray := prog_1_method_27_code
def yX9_slotOf : MethodName := ⟨RX9, "slotOf", "(I)LBorrowedHours$Slot;"⟩
abbrev cX9_timeWith : ByteArray := prog_1_method_28_code
def yX9_timeWith : MethodName := ⟨RX9, "timeWith", "(II)I"⟩
abbrev cX9_timesNow : ByteArray := prog_1_method_29_code
def yX9_timesNow : MethodName := ⟨RX9, "timesNow", "()LBorrowedHours$Times;"⟩
abbrev cX9_playPad : ByteArray := prog_1_method_30_code
def yX9_playPad : MethodName := ⟨RX9, "playPad", "()I"⟩
def RX10 : String := "BorrowedHoursModel"
def TX10 : u_T := fun k => match k with
  | 0 => ("BorrowedHoursModel", "all", "[I", true)
  | 1 => ("BorrowedHoursModel", "history", "[I", true)
  | 2 => ("BorrowedHoursModel", "historyLong", "I", false)
  | 3 => ("BorrowedHoursModel", "slots", "[I", true)
  | 4 => ("BorrowedHoursModel", "isSaved", "[I", true)
  | 5 => ("BorrowedHoursModel", "times", "[I", true)
  | 6 => ("BorrowedHoursModel", "isKnown", "I", false)
  | 7 => ("BorrowedHoursModel", "knownRules", "I", false)
  | 8 => ("BorrowedHoursModel", "knownSum", "I", false)
  | 9 => ("BorrowedHoursModel", "text", "[I", true)
  | 10 => ("BorrowedHoursModel", "textLong", "I", false)
  | 11 => ("BorrowedHoursModel", "spot", "I", false)
  | 12 => ("BorrowedHoursModel", "number", "I", false)
  | 13 => ("BorrowedHoursModel", "told", "[I", true)
  | _ => ("BorrowedHoursModel", "read", "I", false)
def tyX10 : Nat → FieldType := fun k => match k with
  | 0 => .array .int
  | 1 => .array .int
  | 2 => .int
  | 3 => .array .int
  | 4 => .array .int
  | 5 => .array .int
  | 6 => .int
  | 7 => .int
  | 8 => .int
  | 9 => .array .int
  | 10 => .int
  | 11 => .int
  | 12 => .int
  | 13 => .array .int
  | _ => .int
theorem nmX10 : ∀ a, a < 15 → ∀ b, b < 15 → a ≠ b → (TX10 a).2.1 ≠ (TX10 b).2.1 := by decide +kernel
theorem tyX10_ok : ∀ k, k < 15 → parseFieldDescriptor (TX10 k).2.2.1 = some (tyX10 k) := by decide +kernel
abbrev cX10_init : ByteArray := prog_12_method_1_code
def yX10_init : MethodName := ⟨RX10, "<init>", "()V"⟩
abbrev cX10_in : ByteArray := prog_12_method_3_code
def yX10_in : MethodName := ⟨RX10, "in", "(JJJ)Z"⟩
abbrev cX10_changes : ByteArray := prog_12_method_4_code
def yX10_changes : MethodName := ⟨RX10, "changes", "()V"⟩
abbrev cX10_newGame : ByteArray := prog_12_method_5_code
def yX10_newGame : MethodName := ⟨RX10, "newGame", "()V"⟩
abbrev cX10_isPlayer : ByteArray := prog_12_method_6_code
def yX10_isPlayer : MethodName := ⟨RX10, "isPlayer", "(I)Z"⟩
abbrev cX10_winnerAt : ByteArray := prog_12_method_7_code
def yX10_winnerAt : MethodName := ⟨RX10, "winnerAt", "(I)I"⟩
abbrev cX10_isOver : ByteArray := prog_12_method_8_code
def yX10_isOver : MethodName := ⟨RX10, "isOver", "()Z"⟩
abbrev cX10_most : ByteArray := prog_12_method_9_code
def yX10_most : MethodName := ⟨RX10, "most", "(I)I"⟩
abbrev cX10_taker : ByteArray := prog_12_method_10_code
def yX10_taker : MethodName := ⟨RX10, "taker", "(III)I"⟩
abbrev cX10_plays : ByteArray := prog_12_method_11_code
def yX10_plays : MethodName := ⟨RX10, "plays", "(II)I"⟩
abbrev cX10_canPlay : ByteArray := prog_12_method_12_code
def yX10_canPlay : MethodName := ⟨RX10, "canPlay", "(II)Z"⟩
abbrev cX10_at : ByteArray := prog_12_method_13_code
def yX10_at : MethodName := ⟨RX10, "at", "(IIIII)I"⟩
abbrev cX10_behind : ByteArray := prog_12_method_14_code
def yX10_behind : MethodName := ⟨RX10, "behind", "(IIIIIII)I"⟩
abbrev cX10_canForce : ByteArray := prog_12_method_15_code
def yX10_canForce : MethodName := ⟨RX10, "canForce", "(IIIIII)Z"⟩
abbrev cX10_lowest : ByteArray := prog_12_method_16_code
def yX10_lowest : MethodName := ⟨RX10, "lowest", "()I"⟩
abbrev cX10_worksOut : ByteArray := prog_12_method_17_code
def yX10_worksOut : MethodName := ⟨RX10, "worksOut", "(III)V"⟩
abbrev cX10_worksOutAll : ByteArray := prog_12_method_18_code
def yX10_worksOutAll : MethodName := ⟨RX10, "worksOutAll", "(II)V"⟩
abbrev cX10_knows : ByteArray := prog_12_method_19_code
def yX10_knows : MethodName := ⟨RX10, "knows", "(I)V"⟩
abbrev cX10_timeWith : ByteArray := prog_12_method_20_code
def yX10_timeWith : MethodName := ⟨RX10, "timeWith", "(III)I"⟩
abbrev cX10_timeOf : ByteArray := prog_12_method_21_code
def yX10_timeOf : MethodName := ⟨RX10, "timeOf", "(I)I"⟩
abbrev cX10_timeBehind : ByteArray := prog_12_method_22_code
def yX10_timeBehind : MethodName := ⟨RX10, "timeBehind", "(III)I"⟩
abbrev cX10_isSetting : ByteArray := prog_12_method_23_code
def yX10_isSetting : MethodName := ⟨RX10, "isSetting", "(II)Z"⟩
abbrev cX10_set : ByteArray := prog_12_method_24_code
def yX10_set : MethodName := ⟨RX10, "set", "(II)I"⟩
abbrev cX10_begin : ByteArray := prog_12_method_25_code
def yX10_begin : MethodName := ⟨RX10, "begin", "(II)I"⟩
abbrev cX10_round : ByteArray := prog_12_method_26_code
def yX10_round : MethodName := ⟨RX10, "round", "(II)I"⟩
abbrev cX10_play : ByteArray := prog_12_method_27_code
def yX10_play : MethodName := ⟨RX10, "play", "()I"⟩
abbrev cX10_player : ByteArray := prog_12_method_28_code
def yX10_player : MethodName := ⟨RX10, "player", "(II)I"⟩
abbrev cX10_count : ByteArray := prog_12_method_29_code
def yX10_count : MethodName := ⟨RX10, "count", "(I)I"⟩
abbrev cX10_forced : ByteArray := prog_12_method_30_code
def yX10_forced : MethodName := ⟨RX10, "forced", "(II)I"⟩
abbrev cX10_ahead : ByteArray := prog_12_method_31_code
def yX10_ahead : MethodName := ⟨RX10, "ahead", "(II)I"⟩
abbrev cX10_worstBehind : ByteArray := prog_12_method_32_code
def yX10_worstBehind : MethodName := ⟨RX10, "worstBehind", "(I)I"⟩
abbrev cX10_othersBehind : ByteArray := prog_12_method_33_code
def yX10_othersBehind : MethodName := ⟨RX10, "othersBehind", "(I)I"⟩
abbrev cX10_bestBid : ByteArray := prog_12_method_34_code
def yX10_bestBid : MethodName := ⟨RX10, "bestBid", "()I"⟩
abbrev cX10_bestAnswer : ByteArray := prog_12_method_35_code
def yX10_bestAnswer : MethodName := ⟨RX10, "bestAnswer", "(I)I"⟩
abbrev cX10_answerTo : ByteArray := prog_12_method_36_code
def yX10_answerTo : MethodName := ⟨RX10, "answerTo", "(I)I"⟩
abbrev cX10_keeps : ByteArray := prog_12_method_37_code
def yX10_keeps : MethodName := ⟨RX10, "keeps", "()I"⟩
abbrev cX10_leastHours : ByteArray := prog_12_method_38_code
def yX10_leastHours : MethodName := ⟨RX10, "leastHours", "(I)I"⟩
abbrev cX10_charactersOf : ByteArray := prog_12_method_39_code
def yX10_charactersOf : MethodName := ⟨RX10, "charactersOf", "(J)I"⟩
abbrev cX10_put : ByteArray := prog_12_method_40_code
def yX10_put : MethodName := ⟨RX10, "put", "(J)I"⟩
abbrev cX10_wipe : ByteArray := prog_12_method_41_code
def yX10_wipe : MethodName := ⟨RX10, "wipe", "()I"⟩
abbrev cX10_isHere : ByteArray := prog_12_method_42_code
def yX10_isHere : MethodName := ⟨RX10, "isHere", "(II)Z"⟩
abbrev cX10_takesOne : ByteArray := prog_12_method_43_code
def yX10_takesOne : MethodName := ⟨RX10, "takesOne", "(I)Z"⟩
abbrev cX10_readsBid : ByteArray := prog_12_method_44_code
def yX10_readsBid : MethodName := ⟨RX10, "readsBid", "()Z"⟩
abbrev cX10_readsRound : ByteArray := prog_12_method_45_code
def yX10_readsRound : MethodName := ⟨RX10, "readsRound", "()Z"⟩
abbrev cX10_fault : ByteArray := prog_12_method_46_code
def yX10_fault : MethodName := ⟨RX10, "fault", "()I"⟩
abbrev cX10_run : ByteArray := prog_12_method_47_code
def yX10_run : MethodName := ⟨RX10, "run", "()I"⟩
abbrev cX10_undo : ByteArray := prog_12_method_48_code
def yX10_undo : MethodName := ⟨RX10, "undo", "()I"⟩
abbrev cX10_save : ByteArray := prog_12_method_49_code
def yX10_save : MethodName := ⟨RX10, "save", "(I)I"⟩
abbrev cX10_restore : ByteArray := prog_12_method_50_code
def yX10_restore : MethodName := ⟨RX10, "restore", "(I)I"⟩
def RL : String := "BorrowedHoursLaw"
abbrev cL_law : ByteArray := code
def yL_law : MethodName := ⟨RL, "law", "([I)Z"⟩
abbrev vwCl : List vw_C := [(RX0, TX0, 1), (RX1, TX1, 1), (RX2, TX2, 10), (RX3, TX3, 2), (RX4, TX4, 1), (RX5, TX5, 2), (RX6, TX6, 5), (RX7, TX7, 2), (RX8, TX8, 7), (RX9, TX9, 8), (RX10, TX10, 15)]
end
section
/-! 02.core: the pool (address -> content), the bundled judgement Jd, contracts Ct, a row an instruction -/
/-- the words that every contract here asks for: the good ones of the tables -/
def wsU : List Cond := lw_tbl.filter goodWord
abbrev pE : Type := (Nat × List Value) ⊕ ((Nat × (Nat → Int32)) ⊕ (Nat × Nat × (Nat → Option Nat)))
abbrev oO (ci : Nat) (fs : List Value) : pE := .inl (ci, fs)
abbrev oI (n : Nat) (f : Nat → Int32) : pE := .inr (.inl (n, f))
abbrev oQ (k n : Nat) (f : Nat → Option Nat) : pE := .inr (.inr (k, n, f))
abbrev qC : Type := ClassId × ClassId × ClassId
def qk (q : qC) (k : Nat) : ClassId := if k = 0 then q.2.1 else q.2.2
def pcv (q : qC) : pE → va_E
  | .inl o => .inr o
  | .inr (.inl a) => .inl (q.1, a.1, .inl a.2)
  | .inr (.inr a) => .inl (qk q a.1, a.2.1, .inr (.inr (.inr (.inr a.2.2))))
abbrev pS : Type := Nat → Option pE
def pu (S : pS) (a : Nat) (e : pE) : pS := fun x => if x = a then some e else S x
theorem pu_self (S : pS) (a : Nat) (e : pE) : pu S a e a = some e := if_pos rfl
theorem pu_ne (S : pS) {a b : Nat} (e : pE) (h : b ≠ a) : pu S a e b = S b := if_neg h
def tyQ (q : qC) : List (ClassId × FieldType) := [(q.1, .int), (q.2.1, .object "BorrowedHours$Game"), (q.2.2, .object "BorrowedHours$Times")]
def nestL : List (String × Nat × MethodName × String) := [("BorrowedHours", 11, ⟨"BorrowedHours$Game", "<init>", "()V"⟩, "BorrowedHours"), ("BorrowedHours$Game", 17, ⟨"BorrowedHours$Side", "<init>", "()V"⟩, "BorrowedHours"), ("BorrowedHours", 18, ⟨"BorrowedHours$History", "<init>", "()V"⟩, "BorrowedHours"), ("BorrowedHours", 25, ⟨"BorrowedHours$Slot", "<init>", "()V"⟩, "BorrowedHours"), ("BorrowedHours$Slot", 9, ⟨"BorrowedHours$Game", "<init>", "()V"⟩, "BorrowedHours"), ("BorrowedHours", 35, ⟨"BorrowedHours$Pad", "<init>", "()V"⟩, "BorrowedHours"), ("BorrowedHours", 42, ⟨"BorrowedHours$Memory", "<init>", "()V"⟩, "BorrowedHours"), ("BorrowedHours$History", 24, ⟨"BorrowedHours$Game", "<init>", "()V"⟩, "BorrowedHours")]
def KK (D : va_G) (q : qC) (s : State) : Prop := va_K D vwCl (tyQ q) s ∧ va_AO "BorrowedHours$Game" s ∧ va_AO "BorrowedHours$Times" s ∧ ∀ z ∈ nestL, va_Nw (.methodLinkNest z.1 z.2.1 z.2.2.1 z.2.2.2) s
theorem KK.warm {D : va_G} {q : qC} {s U : State} (hW : s.WarmedH U.vm) (h : KK D q s) : KK D q U := ⟨va_K.moved hW.alike h.1, va_AO.moved hW.alike h.2.1, va_AO.moved hW.alike h.2.2.1, fun z hz => va_Nw.warmM hW (h.2.2.2 z hz)⟩
theorem KK.same {D : va_G} {q : qC} {u U : State} (e : u.vm = U.vm) (h : KK D q u) : KK D q U := ⟨va_K.moved (by rw [← e]; exact Vm.Alike.refl _) h.1, va_AO.moved (by rw [← e]; exact Vm.Alike.refl _) h.2.1, va_AO.moved (by rw [← e]; exact Vm.Alike.refl _) h.2.2.1, fun z hz => va_Nw.same rfl e (h.2.2.2 z hz)⟩
def pH (D : va_G) (q : qC) (A : Nat → Prop) (S : pS) (H : Heap) : Prop :=
  ∃ (L : List Nat) (f : Nat → va_E), (∀ a e, S a = some e → a ∈ L ∧ f a = pcv q e) ∧ (∀ a, a ∈ L → ∃ e, S a = some e) ∧ va_P D vwCl (va_pl L f) H ∧ va_D A (va_pl L f)
theorem pl_mem {L : List Nat} {f : Nat → va_E} {k : Nat} {x : Nat × va_E} (h : (va_pl L f)[k]? = some x) : x.1 ∈ L ∧ x.2 = f x.1 := by
  unfold va_pl at h
  rw [List.getElem?_map] at h
  cases hl : L[k]? with
  | none => rw [hl] at h; cases h
  | some a => rw [hl] at h; cases h; exact ⟨List.mem_of_getElem? hl, rfl⟩
theorem pH.weaken {D : va_G} {q : qC} {A B : Nat → Prop} {S : pS} {H : Heap} (h : pH D q A S H) (hB : ∀ a e, S a = some e → A a → B a) : pH D q B S H := by
  obtain ⟨L, f, h1, h2, h3, h4⟩ := h
  refine ⟨L, f, h1, h2, h3, h4.weaken (fun k x hk hA => ?_)⟩
  obtain ⟨e, he⟩ := h2 x.1 (pl_mem hk).1
  exact hB x.1 e he hA
theorem pH.inA {D : va_G} {q : qC} {A : Nat → Prop} {S : pS} {H : Heap} (h : pH D q A S H) {a : Nat} {e : pE} (ha : S a = some e) : A a := by
  obtain ⟨L, f, h1, h2, h3, h4⟩ := h
  obtain ⟨k, hk⟩ := va_pl_get (X := []) (f := f) (h1 a e ha).1
  exact h4.2 k _ hk
theorem pH.lt {D : va_G} {q : qC} {A : Nat → Prop} {S : pS} {H : Heap} (h : pH D q A S H) {a : Nat} {e : pE} (ha : S a = some e) : a < H.size := by
  obtain ⟨L, f, h1, h2, h3, h4⟩ := h
  obtain ⟨k, hk⟩ := va_pl_get (X := []) (f := f) (h1 a e ha).1
  exact (h3 k _ hk).lt
theorem pH.at {D : va_G} {q : qC} {A : Nat → Prop} {S : pS} {H : Heap} (h : pH D q A S H) {a : Nat} {e : pE} (ha : S a = some e) :
    ∃ (L : List Nat) (f : Nat → va_E) (k : Nat), va_P D vwCl (va_pl L f) H ∧ va_D A (va_pl L f) ∧ (va_pl L f)[k]? = some (a, pcv q e) ∧
      (∀ (e' : pE) (H1 : Heap), va_P D vwCl ((va_pl L f).set k (a, pcv q e')) H1 → va_D A ((va_pl L f).set k (a, pcv q e')) → pH D q A (pu S a e') H1) ∧ ∀ (b : Nat) (x : pE), S b = some x → ∃ k2 : Nat, (va_pl L f)[k2]? = some (b, pcv q x) := by
  obtain ⟨L, f, h1, h2, h3, h4⟩ := h
  obtain ⟨hL, hf⟩ := h1 a e ha
  obtain ⟨k, hk⟩ := va_pl_get (X := []) (f := f) hL
  have hk : (va_pl L f)[k]? = some (a, f a) := hk
  refine ⟨L, f, k, h3, h4, by rw [hk, hf], fun e' H1 g3 g4 => ?_, fun b x hb => ?_⟩
  rotate_left
  · obtain ⟨hL2, hf2⟩ := h1 b x hb
    obtain ⟨k2, hk2⟩ := va_pl_get (X := []) (f := f) hL2
    exact ⟨k2, by rw [← hf2]; exact hk2⟩
  have hs : (va_pl L f).set k (a, pcv q e') = va_pl L (va_up f a (pcv q e')) := va_pl_set (X := []) h4 hL hk
  rw [hs] at g3 g4
  refine ⟨L, va_up f a (pcv q e'), fun b x hb => ?_, fun b hb => ?_, g3, g4⟩
  · by_cases hba : b = a
    · subst hba
      rw [pu_self] at hb
      cases hb
      exact ⟨hL, va_up_self _ _ _⟩
    · rw [pu_ne _ _ hba] at hb
      rw [va_up_ne _ _ hba]
      exact h1 b x hb
  · by_cases hba : b = a
    · subst hba
      exact ⟨_, pu_self _ _ _⟩
    · obtain ⟨x, hx⟩ := h2 b hb
      exact ⟨x, by rw [pu_ne _ _ hba]; exact hx⟩
theorem pH.new {D : va_G} {q : qC} {A : Nat → Prop} {S : pS} {L : List Nat} {f : Nat → va_E} (h1 : ∀ a e, S a = some e → a ∈ L ∧ f a = pcv q e) (h2 : ∀ a, a ∈ L → ∃ e, S a = some e) {a : Nat} {e : pE} {H1 : Heap}
    (g3 : va_P D vwCl (va_pl L f ++ [(a, pcv q e)]) H1) (g4 : va_D A (va_pl L f ++ [(a, pcv q e)])) : S a = none ∧ pH D q A (pu S a e) H1 := by
  have hL : a ∉ L := va_pl_fresh2 (X := []) g4
  have hS : S a = none := by
    cases hs : S a with
    | none => rfl
    | some x => exact absurd (h1 a x hs).1 hL
  rw [va_pl_push hL] at g3 g4
  refine ⟨hS, L ++ [a], va_up f a (pcv q e), fun b x hb => ?_, fun b hb => ?_, g3, g4⟩
  · by_cases hba : b = a
    · subst hba
      rw [pu_self] at hb
      cases hb
      exact ⟨List.mem_append_right _ List.mem_cons_self, va_up_self _ _ _⟩
    · rw [pu_ne _ _ hba] at hb
      rw [va_up_ne _ _ hba]
      exact ⟨List.mem_append_left _ (h1 b x hb).1, (h1 b x hb).2⟩
  · by_cases hba : b = a
    · subst hba
      exact ⟨_, pu_self _ _ _⟩
    · have hb2 : b ∈ L := by
        rcases List.mem_append.mp hb with h | h
        · exact h
        · exact absurd (List.mem_singleton.mp h) hba
      obtain ⟨x, hx⟩ := h2 b hb2
      exact ⟨x, by rw [pu_ne _ _ hba]; exact hx⟩
/-- the locals: what is known of each place -/
def lvL (ls : Array Slot) (nL : Nat) (L : List (Option Value)) : Prop := ls.size = nL ∧ lv_wf ls ∧ ∀ (i : Nat) (v : Value), L[i]? = some (some v) → ls[i]? = some (.val v)
def lvp (L : List (Option Value)) : List (Nat × Value) := (List.range L.length).filterMap (fun i => (L[i]?.getD none).map (fun v => (i, v)))
theorem lvp_mem {L : List (Option Value)} {i : Nat} {v : Value} : (i, v) ∈ lvp L ↔ L[i]? = some (some v) := by
  unfold lvp
  rw [List.mem_filterMap]
  constructor
  · rintro ⟨j, hj, h⟩
    cases hl : L[j]? with
    | none => rw [hl] at h; cases h
    | some o =>
      cases o with
      | none => rw [hl] at h; cases h
      | some w => rw [hl] at h; cases h; exact hl
  · intro h
    exact ⟨i, List.mem_range.mpr (List.getElem?_eq_some_iff.mp h).1, by rw [h]; rfl⟩
theorem lvL.has {ls : Array Slot} {nL : Nat} {L : List (Option Value)} (h : lvL ls nL L) : lv_has ls nL (lvp L) := ⟨h.1, h.2.1, fun x hx => h.2.2 x.1 x.2 (lvp_mem.mp hx)⟩
/-- no long stands in the place ahead of i -/
def noL (L : List (Option Value)) (i : Nat) : Bool := match i with
  | 0 => true
  | j + 1 => match L[j]? with
    | some (some v) => !(v.category == 2)
    | _ => true
theorem lvL.set1 {ls : Array Slot} {nL : Nat} {L : List (Option Value)} {i : Nat} {v : Value} (hc : noL L i = true) (h : lv_has ls nL ((i, v) :: (lvp L).filter (fun q => !(q.1 == i) && !(q.1 + 1 == i && q.2.category == 2)))) : lvL ls nL (L.set i (some v)) := by
  refine ⟨h.1, h.2.1, fun j w hj => ?_⟩
  rw [List.getElem?_set] at hj
  by_cases hij : i = j
  · subst hij
    rw [if_pos rfl] at hj
    split at hj
    · cases hj
      exact h.2.2 (i, v) List.mem_cons_self
    · cases hj
  · rw [if_neg hij] at hj
    refine h.2.2 (j, w) (List.mem_cons_of_mem _ (List.mem_filter.mpr ⟨lvp_mem.mpr hj, ?_⟩))
    have h1 : (j == i) = false := by simp; omega
    have h2 : (j + 1 == i && w.category == 2) = false := by
      by_cases hji : j + 1 = i
      · subst hji
        unfold noL at hc
        simp only [hj] at hc
        simp at hc ⊢
        exact hc
      · simp [hji]
    simp [h1]
    simp at h2
    by_cases hji : j + 1 = i
    · exact Or.inr (h2 hji)
    · exact Or.inl hji
theorem lvL.set2 {ls : Array Slot} {nL : Nat} {L : List (Option Value)} {i : Nat} {v : Value} (hc : noL L i = true) (h : lv_has ls nL ((i, v) :: (lvp L).filter (fun q => !(q.1 == i) && (!(q.1 == i + 1) && !(q.1 + 1 == i && q.2.category == 2))))) : lvL ls nL ((L.set i (some v)).set (i + 1) none) := by
  refine ⟨h.1, h.2.1, fun j w hj => ?_⟩
  rw [List.getElem?_set] at hj
  by_cases hi1 : i + 1 = j
  · rw [if_pos hi1] at hj
    split at hj <;> cases hj
  · rw [if_neg hi1] at hj
    rw [List.getElem?_set] at hj
    by_cases hij : i = j
    · subst hij
      rw [if_pos rfl] at hj
      split at hj
      · cases hj
        exact h.2.2 (i, v) List.mem_cons_self
      · cases hj
    · rw [if_neg hij] at hj
      refine h.2.2 (j, w) (List.mem_cons_of_mem _ (List.mem_filter.mpr ⟨lvp_mem.mpr hj, ?_⟩))
      have h1 : (j == i) = false := by simp; omega
      have h3 : (j == i + 1) = false := by simp; omega
      have h2 : (j + 1 == i && w.category == 2) = false := by
        by_cases hji : j + 1 = i
        · subst hji
          unfold noL at hc
          simp only [hj] at hc
          simp at hc ⊢
          exact hc
        · simp [hji]
      simp [h1, h3]
      simp at h2
      by_cases hji : j + 1 = i
      · exact Or.inr (h2 hji)
      · exact Or.inl hji
def lvOf (sl : List Slot) : List (Option Value) := sl.map (fun x => match x with | .val v => some v | _ => none)
def argL (vs : List Value) (n : Nat) : List (Option Value) := lvOf (lg_sl vs ++ List.replicate (n - (lg_sl vs).length) Slot.unset)
theorem lvL.entry (vs : List Value) {n : Nat} (h : (lg_sl vs).length ≤ n) : lvL ((lg_sl vs ++ List.replicate (n - (lg_sl vs).length) Slot.unset).toArray) n (argL vs n) := by
  have he := lv_entry vs h
  refine ⟨he.1, he.2.1, fun i v hi => ?_⟩
  unfold argL lvOf at hi
  rw [List.getElem?_map] at hi
  rw [List.getElem?_toArray]
  cases hx : (lg_sl vs ++ List.replicate (n - (lg_sl vs).length) Slot.unset)[i]? with
  | none => rw [hx] at hi; cases hi
  | some sl => rw [hx] at hi; cases sl <;> cases hi; rfl
def rmJ (d c s : Nat) : Room := { frames := d, cells := c, slots := s, locals := 40 * d }
def Cx (p : Program) (R : Room) (s : State) (m : MethodId) (args : Array Value) (meth : Method) (c : Code) (D : va_G) (q : qC) (A : Nat → Prop) (y : MethodName) (cc : ByteArray) (nL : Nat) (rt : Option FieldType) (d tc ts : Nat) : Prop :=
  p.tables.exec = Jvm.exec ∧ c.code = cc ∧ c.maxLocals = nL ∧ s.vm.findClass y.cls = some m.cls ∧ (∀ w ∈ wsU, w.before args s = true) ∧ meth.sig.returnType = rt ∧ meth.locks = false ∧ (y.name = "<init>" → meth.name = "<init>") ∧ KK D q s ∧ (∀ x, s.heap.size ≤ x → A x) ∧ d ≤ R.frames ∧ 40 * d ≤ R.locals ∧ tc ≤ R.cells ∧ ts ≤ R.slots
def retI (rt : Option FieldType) (r : Option Value) (ins : Instr) : Prop := (ins = .return_ ∧ rt = none ∧ r = none) ∨ (ins = .ireturn ∧ ∃ (ty : FieldType) (v : Int32), rt = some ty ∧ r = some (.int v) ∧ narrow ty (.int v) = .int v) ∨ (ins = .areturn ∧ ∃ (n : String) (a : Nat), rt = some (.object n) ∧ r = some (.ref a))
def RetW (p : Program) (l : Launch) (e : Env) (R : Room) (s : State) (m : MethodId) (args : Array Value) (below : List Frame) (meth : Method) (c : Code) (D : va_G) (q : qC) (A : Nat → Prop) (Q : State → Prop) (cc : ByteArray) (rt : Option FieldType) (tc ts : Nat) (r : Option Value) (S' : pS) : Prop :=
  ∀ (H : Heap) (locs : List Loc) (ls : Array Slot) (pc : Nat) (ins : Instr), retI rt r ins → decode cc pc = .ok (ins, 1) → pH D q A S' H → va_S A s.heap H locs → W p l e R s m args below meth c H locs tc ts Q (F0 m pc ls r.toList)
/-- from pc, with these locals, stack and pool, c0 cells of s0 slots made so far: the method comes to its return with K -/
def Jd (y : MethodName) (cc : ByteArray) (nL : Nat) (rt : Option FieldType) (d tc ts : Nat) (K : Option Value → pS → Prop) (c0 s0 : Nat) (S : pS) (pc : Nat) (L : List (Option Value)) (st : List Value) : Prop :=
  ∀ (p : Program) (l : Launch) (e : Env) (R : Room) (s : State) (m : MethodId) (args : Array Value) (below : List Frame) (meth : Method) (c : Code) (D : va_G) (q : qC) (A : Nat → Prop) (Q : State → Prop),
    Cx p R s m args meth c D q A y cc nL rt d tc ts →
    (∀ (r : Option Value) (S' : pS), K r S' → RetW p l e R s m args below meth c D q A Q cc rt tc ts r S') →
    ∀ (H : Heap) (locs : List Loc) (ls : Array Slot), pH D q A S H → va_S A s.heap H locs → lvL ls nL L → W p l e R s m args below meth c H locs c0 s0 Q (F0 m pc ls st)
def QJ (D : va_G) (q : qC) (K : Option Value → pS → Prop) (A : Nat → Prop) : Array Value → State → Outcome → State → Prop := fun _ st oc t =>
  (∃ (r : Option Value) (S' : pS), oc = .returned r ∧ K r S' ∧ pH D q A S' t.heap) ∧ va_F A st t
def aS (S : pS) (sz : Nat) : Nat → Prop := fun x => (∃ e, S x = some e) ∨ sz ≤ x
/-- the contract of a method: room d deep, mc cells of ms slots, from the pool S to K -/
def Ct (y : MethodName) (cc : ByteArray) (nL : Nat) (rt : Option FieldType) (d mc ms : Nat) (vs : List Value) (S : pS) (K : Option Value → pS → Prop) : Prop :=
  ∀ (d' : Nat), d ≤ d' → ∀ (l : Launch) (D : va_G) (q : qC) (sz : Nat), Met l y (.code y cc nL rt :: wsU) (rmJ d' mc ms) (va_Pc vs (fun U => U.heap.size = sz ∧ pH D q (fun _ => True) S U.heap ∧ KK D q U)) (QJ D q K (aS S sz)) mc ms (aS S sz)
theorem Ct.mono {y : MethodName} {cc : ByteArray} {nL : Nat} {rt : Option FieldType} {d d2 mc ms : Nat} {vs : List Value} {S : pS} {K : Option Value → pS → Prop} (h : Ct y cc nL rt d mc ms vs S K) (hd : d ≤ d2) : Ct y cc nL rt d2 mc ms vs S K := fun d' h1 => h d' (Nat.le_trans hd h1)
set_option maxHeartbeats 1000000 in
theorem Ct.ofJ {y : MethodName} {cc : ByteArray} {nL : Nat} {rt : Option FieldType} {d mc ms : Nat} {vs : List Value} {S : pS} {K : Option Value → pS → Prop} (hy : plainName y.cls = true) (hn : (lg_sl vs).length ≤ nL) (J : Jd y cc nL rt d mc ms K 0 0 S 0 (argL vs nL) []) : Ct y cc nL rt d mc ms vs S K := by
  intro d' hd l D q sz
  refine Met.ofW (cc := cc) (maxL := nL) (ret := rt) hy rfl ?_
  intro p e s m args below meth c s₁ B hml hv
  obtain ⟨rfl, hsz, hP, hK⟩ := hv
  have hts := atoms_spec (ws := .code y cc nL rt :: wsU) B.pre
  subst hsz
  have hl := lvL.entry vs hn
  rw [lg_entry_eq]
  generalize (lg_sl vs ++ List.replicate (nL - (lg_sl vs).length) Slot.unset).toArray = ls at hl ⊢
  have hA : ∀ x : Nat, s.heap.size ≤ x → aS S s.heap.size x := fun x h => Or.inr h
  refine J p l e (rmJ d' mc ms) s m vs.toArray below meth c D q (aS S s.heap.size) (MQ below (QJ D q K (aS S s.heap.size)) vs.toArray s mc ms (aS S s.heap.size))
    ⟨B.exec, B.bytes, hml, findClass_of_methodNamed B.named, fun w hw => hts w (List.mem_cons_of_mem _ hw), B.returns, B.notSynchronized, fun h => by rw [← h]; exact (name_of_methodNamed B.named B.method).1, hK, hA, hd, Nat.mul_le_mul_left 40 hd, Nat.le_refl _, Nat.le_refl _⟩ ?_ s.heap [] ls (hP.weaken (fun a x hx _ => Or.inl ⟨x, hx⟩)) va_S.rf hl
  intro r S' hr H locs ls pc ins hins hdg hP' hS'
  have hq : ∀ t : State, t.heap = H → s.WarmedH t.vm → QJ D q K (aS S s.heap.size) vs.toArray s (.returned r) t := fun t ht hW => ⟨⟨r, S', rfl, hr, by rw [ht]; exact hP'⟩, hS'.F ht⟩
  have hlocks := B.notSynchronized
  rcases hins with ⟨rfl, h2, rfl⟩ | ⟨rfl, ty, v, h2, rfl, h3⟩ | ⟨rfl, n, a, h2, rfl⟩
  · exact W.vret B.exec B.bytes (B.returns.trans h2) hq hS'.2.2 hdg hlocks
  · exact W.zret B.exec B.bytes (B.returns.trans h2) h3 hq hS'.2.2 hdg hlocks
  · exact W.aret B.exec B.bytes (B.returns.trans h2) (Or.inl ⟨n, rfl⟩) (Or.inr ⟨a, rfl⟩) hq hS'.2.2 hdg hlocks

/-- int values by their number -/
def iI (z : Int) : Int32 := Int32.ofInt z
theorem iI_add (a b : Int) : iI a + iI b = iI (a + b) := (Int32.ofInt_add a b).symm
theorem iI_sub (a b : Int) : iI a - iI b = iI (a - b) := (Int32.ofInt_sub a b).symm
theorem iI_mul (a b : Int) : iI a * iI b = iI (a * b) := (Int32.ofInt_mul a b).symm
theorem iI_neg (a : Int) : - iI a = iI (-a) := (Int32.ofInt_neg a).symm
theorem iI_of (x : Int32) : iI x.toInt = x := Int32.ofInt_toInt x
theorem iI_to {a : Int} (h1 : -2147483648 ≤ a) (h2 : a < 2147483648) : (iI a).toInt = a := Int32.toInt_ofInt_of_le h1 h2
theorem iI_inj {a b : Int} (a1 : -2147483648 ≤ a) (a2 : a < 2147483648) (b1 : -2147483648 ≤ b) (b2 : b < 2147483648) : iI a = iI b ↔ a = b := by
  rw [← Int32.toInt_inj, iI_to a1 a2, iI_to b1 b2]
theorem iI_le {a b : Int} (a1 : -2147483648 ≤ a) (a2 : a < 2147483648) (b1 : -2147483648 ≤ b) (b2 : b < 2147483648) : iI a ≤ iI b ↔ a ≤ b := by
  rw [Int32.le_iff_toInt_le, iI_to a1 a2, iI_to b1 b2]
theorem iI_lt {a b : Int} (a1 : -2147483648 ≤ a) (a2 : a < 2147483648) (b1 : -2147483648 ≤ b) (b2 : b < 2147483648) : iI a < iI b ↔ a < b := by
  rw [Int32.lt_iff_toInt_lt, iI_to a1 a2, iI_to b1 b2]
theorem iI_in {a : Int} {n : Nat} (h1 : 0 ≤ a) (h2 : a < n) (hn : n < 2147483648) : vp_in (iI a) n := by
  rw [vp_in_iff, iI_to (by omega) (by omega)]
  exact ⟨h1, h2⟩
theorem iI_cl {a : Int} (h1 : 0 ≤ a) (h2 : a < 2147483648) : (iI a).toNatClampNeg = a.toNat := Int32.toNatClampNeg_ofInt_of_le (by omega) h2
theorem iI_div {a b : Int} (a1 : 0 ≤ a) (a2 : a < 2147483648) (b1 : 0 < b) (b2 : b < 2147483648) : iI a / iI b = iI (a / b) := by
  have m1 : Int32.minValue.toInt = -2147483648 := by decide
  have m2 : Int32.maxValue.toInt = 2147483647 := by decide
  have h := Int32.ofInt_tdiv (a := a) (b := b) (by omega) (by omega) (by omega) (by omega)
  rw [Int.tdiv_eq_ediv_of_nonneg a1] at h
  exact h.symm
def uZ (f : Int → Int) (z v : Int) : Int → Int := fun j => if j = z then v else f j
def uQ (f : Int → Option Nat) (z : Int) (v : Option Nat) : Int → Option Nat := fun j => if j = z then v else f j
abbrev aI (n : Nat) (f : Int → Int) : pE := oI n (fun k : Nat => iI (f (k : Int)))
abbrev aQ (k n : Nat) (f : Int → Option Nat) : pE := oQ k n (fun j : Nat => f (j : Int))
theorem aI_up (f : Int → Int) {z : Int} (v : Int) (hz : 0 ≤ z) : upd (fun k : Nat => iI (f (k : Int))) z.toNat (iI v) = fun k : Nat => iI (uZ f z v (k : Int)) := by
  funext k
  unfold upd uZ
  by_cases h : k = z.toNat
  · rw [if_pos h, if_pos (by omega)]
  · rw [if_neg h, if_neg (by omega)]
theorem aQ_up (f : Int → Option Nat) {z : Int} (v : Option Nat) (hz : 0 ≤ z) : va_up (fun k : Nat => f (k : Int)) z.toNat v = fun k : Nat => uQ f z v (k : Int) := by
  funext k
  unfold va_up uQ
  by_cases h : k = z.toNat
  · rw [if_pos h, if_pos (by omega)]
  · rw [if_neg h, if_neg (by omega)]

section JR
variable {y : MethodName} {cc : ByteArray} {nL : Nat} {rt : Option FieldType} {d tc ts : Nat} {K : Option Value → pS → Prop} {c0 s0 : Nat} {S : pS} {pc : Nat} {L : List (Option Value)} {st : List Value}
theorem J_iconst {pc1 : Nat} {n : Int} (hd : decode cc pc = .ok (.iconst n, 1)) (hp : pc + 1 = pc1) (k : Jd y cc nL rt d tc ts K c0 s0 S pc1 L (.int (iI n) :: st)) : Jd y cc nL rt d tc ts K c0 s0 S pc L st := by
  intro p l e R s m args below meth c D q A Q C hR H locs ls hP hS hl
  have C0 := C
  obtain ⟨hx, hb, hml, hown, hts, hrt, hlk, hini, hKK, hA, hdf, hdl, htc, hts2⟩ := C
  have hK := hKK.1
  subst hp
  exact lv_iconst hx hb hd rfl (k p l e R s m args below meth c D q A Q C0 hR H locs ls hP hS hl)
theorem J_bipush {pc1 : Nat} {n : Int} (hv : (Int8.ofInt n).toInt32 = iI n) (hd : decode cc pc = .ok (.bipush n, 2)) (hp : pc + 2 = pc1) (k : Jd y cc nL rt d tc ts K c0 s0 S pc1 L (.int (iI n) :: st)) : Jd y cc nL rt d tc ts K c0 s0 S pc L st := by
  intro p l e R s m args below meth c D q A Q C hR H locs ls hP hS hl
  have C0 := C
  obtain ⟨hx, hb, hml, hown, hts, hrt, hlk, hini, hKK, hA, hdf, hdl, htc, hts2⟩ := C
  have hK := hKK.1
  subst hp
  exact lv_bipush hx hb hd hv (k p l e R s m args below meth c D q A Q C0 hR H locs ls hP hS hl)
theorem J_sipush {pc1 : Nat} {n : Int} (hv : (Int16.ofInt n).toInt32 = iI n) (hd : decode cc pc = .ok (.sipush n, 3)) (hp : pc + 3 = pc1) (k : Jd y cc nL rt d tc ts K c0 s0 S pc1 L (.int (iI n) :: st)) : Jd y cc nL rt d tc ts K c0 s0 S pc L st := by
  intro p l e R s m args below meth c D q A Q C hR H locs ls hP hS hl
  have C0 := C
  obtain ⟨hx, hb, hml, hown, hts, hrt, hlk, hini, hKK, hA, hdf, hdl, htc, hts2⟩ := C
  have hK := hKK.1
  subst hp
  exact lv_sipush hx hb hd hv (k p l e R s m args below meth c D q A Q C0 hR H locs ls hP hS hl)
theorem J_lconst {pc1 : Nat} {n : Fin 2} {v : Int64} (hv : Int64.ofNat (n : Nat) = v) (hd : decode cc pc = .ok (.lconst n, 1)) (hp : pc + 1 = pc1) (k : Jd y cc nL rt d tc ts K c0 s0 S pc1 L (.long v :: st)) : Jd y cc nL rt d tc ts K c0 s0 S pc L st := by
  intro p l e R s m args below meth c D q A Q C hR H locs ls hP hS hl
  have C0 := C
  obtain ⟨hx, hb, hml, hown, hts, hrt, hlk, hini, hKK, hA, hdf, hdl, htc, hts2⟩ := C
  have hK := hKK.1
  subst hp
  exact lv_lconst hx hb hd hv (k p l e R s m args below meth c D q A Q C0 hR H locs ls hP hS hl)
theorem J_null {pc1 : Nat}  (hd : decode cc pc = .ok (.aconst_null, 1)) (hp : pc + 1 = pc1) (k : Jd y cc nL rt d tc ts K c0 s0 S pc1 L (.null :: st)) : Jd y cc nL rt d tc ts K c0 s0 S pc L st := by
  intro p l e R s m args below meth c D q A Q C hR H locs ls hP hS hl
  have C0 := C
  obtain ⟨hx, hb, hml, hown, hts, hrt, hlk, hini, hKK, hA, hdf, hdl, htc, hts2⟩ := C
  have hK := hKK.1
  subst hp
  exact lv_null hx hb hd (k p l e R s m args below meth c D q A Q C0 hR H locs ls hP hS hl)
theorem J_ldc2 {pc1 : Nat} {ix : Nat} {v : Int64} (hw : Cond.constantLong y.cls ix v ∈ wsU) (hd : decode cc pc = .ok (.ldc2_w ix, 3)) (hp : pc + 3 = pc1) (k : Jd y cc nL rt d tc ts K c0 s0 S pc1 L (.long v :: st)) : Jd y cc nL rt d tc ts K c0 s0 S pc L st := by
  intro p l e R s m args below meth c D q A Q C hR H locs ls hP hS hl
  have C0 := C
  obtain ⟨hx, hb, hml, hown, hts, hrt, hlk, hini, hKK, hA, hdf, hdl, htc, hts2⟩ := C
  have hK := hKK.1
  subst hp
  exact lv_ldc2 hx hb hown (hts _ hw) hd (k p l e R s m args below meth c D q A Q C0 hR H locs ls hP hS hl)
theorem J_iload_n {pc1 : Nat} {j : Fin 4} {i : Nat} {x : Int32} (hi : (j : Nat) = i) (hL : L[i]? = some (some (.int x))) (hd : decode cc pc = .ok (.iload_n j, 1)) (hp : pc + 1 = pc1) (k : Jd y cc nL rt d tc ts K c0 s0 S pc1 L (.int x :: st)) : Jd y cc nL rt d tc ts K c0 s0 S pc L st := by
  intro p l e R s m args below meth c D q A Q C hR H locs ls hP hS hl
  have C0 := C
  obtain ⟨hx, hb, hml, hown, hts, hrt, hlk, hini, hKK, hA, hdf, hdl, htc, hts2⟩ := C
  have hK := hKK.1
  subst hp
  exact lv_iload_n hx hb hd hi (hl.2.2 i _ hL) (k p l e R s m args below meth c D q A Q C0 hR H locs ls hP hS hl)
theorem J_iload {pc1 : Nat} {i : Nat} {x : Int32} (hL : L[i]? = some (some (.int x))) (hd : decode cc pc = .ok (.iload i, 2)) (hp : pc + 2 = pc1) (k : Jd y cc nL rt d tc ts K c0 s0 S pc1 L (.int x :: st)) : Jd y cc nL rt d tc ts K c0 s0 S pc L st := by
  intro p l e R s m args below meth c D q A Q C hR H locs ls hP hS hl
  have C0 := C
  obtain ⟨hx, hb, hml, hown, hts, hrt, hlk, hini, hKK, hA, hdf, hdl, htc, hts2⟩ := C
  have hK := hKK.1
  subst hp
  exact lv_iload hx hb hd (hl.2.2 i _ hL) (k p l e R s m args below meth c D q A Q C0 hR H locs ls hP hS hl)
theorem J_lload_n {pc1 : Nat} {j : Fin 4} {i : Nat} {x : Int64} (hi : (j : Nat) = i) (hL : L[i]? = some (some (.long x))) (hd : decode cc pc = .ok (.lload_n j, 1)) (hp : pc + 1 = pc1) (k : Jd y cc nL rt d tc ts K c0 s0 S pc1 L (.long x :: st)) : Jd y cc nL rt d tc ts K c0 s0 S pc L st := by
  intro p l e R s m args below meth c D q A Q C hR H locs ls hP hS hl
  have C0 := C
  obtain ⟨hx, hb, hml, hown, hts, hrt, hlk, hini, hKK, hA, hdf, hdl, htc, hts2⟩ := C
  have hK := hKK.1
  subst hp
  exact lv_lload_n hx hb hd hi (hl.2.2 i _ hL) (k p l e R s m args below meth c D q A Q C0 hR H locs ls hP hS hl)
theorem J_lload {pc1 : Nat} {i : Nat} {x : Int64} (hL : L[i]? = some (some (.long x))) (hd : decode cc pc = .ok (.lload i, 2)) (hp : pc + 2 = pc1) (k : Jd y cc nL rt d tc ts K c0 s0 S pc1 L (.long x :: st)) : Jd y cc nL rt d tc ts K c0 s0 S pc L st := by
  intro p l e R s m args below meth c D q A Q C hR H locs ls hP hS hl
  have C0 := C
  obtain ⟨hx, hb, hml, hown, hts, hrt, hlk, hini, hKK, hA, hdf, hdl, htc, hts2⟩ := C
  have hK := hKK.1
  subst hp
  exact lv_lload hx hb hd (hl.2.2 i _ hL) (k p l e R s m args below meth c D q A Q C0 hR H locs ls hP hS hl)
theorem J_aload_n {pc1 : Nat} {j : Fin 4} {i : Nat} {x : Nat} (hi : (j : Nat) = i) (hL : L[i]? = some (some (.ref x))) (hd : decode cc pc = .ok (.aload_n j, 1)) (hp : pc + 1 = pc1) (k : Jd y cc nL rt d tc ts K c0 s0 S pc1 L (.ref x :: st)) : Jd y cc nL rt d tc ts K c0 s0 S pc L st := by
  intro p l e R s m args below meth c D q A Q C hR H locs ls hP hS hl
  have C0 := C
  obtain ⟨hx, hb, hml, hown, hts, hrt, hlk, hini, hKK, hA, hdf, hdl, htc, hts2⟩ := C
  have hK := hKK.1
  subst hp
  exact lv_aload_n hx hb hd hi (hl.2.2 i _ hL) (k p l e R s m args below meth c D q A Q C0 hR H locs ls hP hS hl)
theorem J_aload {pc1 : Nat} {i : Nat} {x : Nat} (hL : L[i]? = some (some (.ref x))) (hd : decode cc pc = .ok (.aload i, 2)) (hp : pc + 2 = pc1) (k : Jd y cc nL rt d tc ts K c0 s0 S pc1 L (.ref x :: st)) : Jd y cc nL rt d tc ts K c0 s0 S pc L st := by
  intro p l e R s m args below meth c D q A Q C hR H locs ls hP hS hl
  have C0 := C
  obtain ⟨hx, hb, hml, hown, hts, hrt, hlk, hini, hKK, hA, hdf, hdl, htc, hts2⟩ := C
  have hK := hKK.1
  subst hp
  exact lv_aload hx hb hd (hl.2.2 i _ hL) (k p l e R s m args below meth c D q A Q C0 hR H locs ls hP hS hl)
theorem J_aload_nN {pc1 : Nat} {j : Fin 4} {i : Nat} (hi : (j : Nat) = i) (hL : L[i]? = some (some .null)) (hd : decode cc pc = .ok (.aload_n j, 1)) (hp : pc + 1 = pc1) (k : Jd y cc nL rt d tc ts K c0 s0 S pc1 L (.null :: st)) : Jd y cc nL rt d tc ts K c0 s0 S pc L st := by
  intro p l e R s m args below meth c D q A Q C hR H locs ls hP hS hl
  have C0 := C
  obtain ⟨hx, hb, hml, hown, hts, hrt, hlk, hini, hKK, hA, hdf, hdl, htc, hts2⟩ := C
  have hK := hKK.1
  subst hp
  exact lv_aload_nN hx hb hd hi (hl.2.2 i _ hL) (k p l e R s m args below meth c D q A Q C0 hR H locs ls hP hS hl)
theorem J_aloadN {pc1 : Nat} {i : Nat} (hL : L[i]? = some (some .null)) (hd : decode cc pc = .ok (.aload i, 2)) (hp : pc + 2 = pc1) (k : Jd y cc nL rt d tc ts K c0 s0 S pc1 L (.null :: st)) : Jd y cc nL rt d tc ts K c0 s0 S pc L st := by
  intro p l e R s m args below meth c D q A Q C hR H locs ls hP hS hl
  have C0 := C
  obtain ⟨hx, hb, hml, hown, hts, hrt, hlk, hini, hKK, hA, hdf, hdl, htc, hts2⟩ := C
  have hK := hKK.1
  subst hp
  exact lv_aloadN hx hb hd (hl.2.2 i _ hL) (k p l e R s m args below meth c D q A Q C0 hR H locs ls hP hS hl)
theorem J_istore_n {pc1 : Nat} {j : Fin 4} {i : Nat} {x : Int32} (hi : (j : Nat) = i) (hd : decode cc pc = .ok (.istore_n j, 1)) (hp : pc + 1 = pc1) (hn : i < nL) (hc : noL L i = true) {L1 : List (Option Value)} (hk1 : (L.set i (some (.int x))) = L1) (k : Jd y cc nL rt d tc ts K c0 s0 S pc1 L1 st) : Jd y cc nL rt d tc ts K c0 s0 S pc L ((.int x) :: st) := by
  intro p l e R s m args below meth c D q A Q C hR H locs ls hP hS hl
  have C0 := C
  obtain ⟨hx, hb, hml, hown, hts, hrt, hlk, hini, hKK, hA, hdf, hdl, htc, hts2⟩ := C
  have hK := hKK.1
  subst hp
  refine lv_istore_n (lv := lvp L) hx hb hd hi hl.has hn rfl (fun ls1 h1 => ?_)
  subst hk1
  exact k p l e R s m args below meth c D q A Q C0 hR H locs ls1 hP hS (lvL.set1 hc h1)
theorem J_istore {pc1 : Nat} {i : Nat} {x : Int32} (hd : decode cc pc = .ok (.istore i, 2)) (hp : pc + 2 = pc1) (hn : i < nL) (hc : noL L i = true) {L1 : List (Option Value)} (hk1 : (L.set i (some (.int x))) = L1) (k : Jd y cc nL rt d tc ts K c0 s0 S pc1 L1 st) : Jd y cc nL rt d tc ts K c0 s0 S pc L ((.int x) :: st) := by
  intro p l e R s m args below meth c D q A Q C hR H locs ls hP hS hl
  have C0 := C
  obtain ⟨hx, hb, hml, hown, hts, hrt, hlk, hini, hKK, hA, hdf, hdl, htc, hts2⟩ := C
  have hK := hKK.1
  subst hp
  refine lv_istore (lv := lvp L) hx hb hd  hl.has hn rfl (fun ls1 h1 => ?_)
  subst hk1
  exact k p l e R s m args below meth c D q A Q C0 hR H locs ls1 hP hS (lvL.set1 hc h1)
theorem J_lstore_n {pc1 : Nat} {j : Fin 4} {i : Nat} {x : Int64} (hi : (j : Nat) = i) (hd : decode cc pc = .ok (.lstore_n j, 1)) (hp : pc + 1 = pc1) (hn : i + 1 < nL) (hc : noL L i = true) {L1 : List (Option Value)} (hk1 : ((L.set i (some (.long x))).set (i + 1) none) = L1) (k : Jd y cc nL rt d tc ts K c0 s0 S pc1 L1 st) : Jd y cc nL rt d tc ts K c0 s0 S pc L ((.long x) :: st) := by
  intro p l e R s m args below meth c D q A Q C hR H locs ls hP hS hl
  have C0 := C
  obtain ⟨hx, hb, hml, hown, hts, hrt, hlk, hini, hKK, hA, hdf, hdl, htc, hts2⟩ := C
  have hK := hKK.1
  subst hp
  refine lv_lstore_n (lv := lvp L) hx hb hd hi hl.has hn rfl (fun ls1 h1 => ?_)
  subst hk1
  exact k p l e R s m args below meth c D q A Q C0 hR H locs ls1 hP hS (lvL.set2 hc h1)
theorem J_lstore {pc1 : Nat} {i : Nat} {x : Int64} (hd : decode cc pc = .ok (.lstore i, 2)) (hp : pc + 2 = pc1) (hn : i + 1 < nL) (hc : noL L i = true) {L1 : List (Option Value)} (hk1 : ((L.set i (some (.long x))).set (i + 1) none) = L1) (k : Jd y cc nL rt d tc ts K c0 s0 S pc1 L1 st) : Jd y cc nL rt d tc ts K c0 s0 S pc L ((.long x) :: st) := by
  intro p l e R s m args below meth c D q A Q C hR H locs ls hP hS hl
  have C0 := C
  obtain ⟨hx, hb, hml, hown, hts, hrt, hlk, hini, hKK, hA, hdf, hdl, htc, hts2⟩ := C
  have hK := hKK.1
  subst hp
  refine lv_lstore (lv := lvp L) hx hb hd  hl.has hn rfl (fun ls1 h1 => ?_)
  subst hk1
  exact k p l e R s m args below meth c D q A Q C0 hR H locs ls1 hP hS (lvL.set2 hc h1)
theorem J_astore_n {pc1 : Nat} {j : Fin 4} {i : Nat} {x : Nat} (hi : (j : Nat) = i) (hd : decode cc pc = .ok (.astore_n j, 1)) (hp : pc + 1 = pc1) (hn : i < nL) (hc : noL L i = true) {L1 : List (Option Value)} (hk1 : (L.set i (some (.ref x))) = L1) (k : Jd y cc nL rt d tc ts K c0 s0 S pc1 L1 st) : Jd y cc nL rt d tc ts K c0 s0 S pc L ((.ref x) :: st) := by
  intro p l e R s m args below meth c D q A Q C hR H locs ls hP hS hl
  have C0 := C
  obtain ⟨hx, hb, hml, hown, hts, hrt, hlk, hini, hKK, hA, hdf, hdl, htc, hts2⟩ := C
  have hK := hKK.1
  subst hp
  refine lv_astore_n (lv := lvp L) hx hb hd hi hl.has hn rfl (fun ls1 h1 => ?_)
  subst hk1
  exact k p l e R s m args below meth c D q A Q C0 hR H locs ls1 hP hS (lvL.set1 hc h1)
theorem J_astore {pc1 : Nat} {i : Nat} {x : Nat} (hd : decode cc pc = .ok (.astore i, 2)) (hp : pc + 2 = pc1) (hn : i < nL) (hc : noL L i = true) {L1 : List (Option Value)} (hk1 : (L.set i (some (.ref x))) = L1) (k : Jd y cc nL rt d tc ts K c0 s0 S pc1 L1 st) : Jd y cc nL rt d tc ts K c0 s0 S pc L ((.ref x) :: st) := by
  intro p l e R s m args below meth c D q A Q C hR H locs ls hP hS hl
  have C0 := C
  obtain ⟨hx, hb, hml, hown, hts, hrt, hlk, hini, hKK, hA, hdf, hdl, htc, hts2⟩ := C
  have hK := hKK.1
  subst hp
  refine lv_astore (lv := lvp L) hx hb hd  hl.has hn rfl (fun ls1 h1 => ?_)
  subst hk1
  exact k p l e R s m args below meth c D q A Q C0 hR H locs ls1 hP hS (lvL.set1 hc h1)
theorem J_astore_nN {pc1 : Nat} {j : Fin 4} {i : Nat} (hi : (j : Nat) = i) (hd : decode cc pc = .ok (.astore_n j, 1)) (hp : pc + 1 = pc1) (hn : i < nL) (hc : noL L i = true) {L1 : List (Option Value)} (hk1 : (L.set i (some .null)) = L1) (k : Jd y cc nL rt d tc ts K c0 s0 S pc1 L1 st) : Jd y cc nL rt d tc ts K c0 s0 S pc L (.null :: st) := by
  intro p l e R s m args below meth c D q A Q C hR H locs ls hP hS hl
  have C0 := C
  obtain ⟨hx, hb, hml, hown, hts, hrt, hlk, hini, hKK, hA, hdf, hdl, htc, hts2⟩ := C
  have hK := hKK.1
  subst hp
  refine lv_astore_nN (lv := lvp L) hx hb hd hi hl.has hn rfl (fun ls1 h1 => ?_)
  subst hk1
  exact k p l e R s m args below meth c D q A Q C0 hR H locs ls1 hP hS (lvL.set1 hc h1)
theorem J_astoreN {pc1 : Nat} {i : Nat} (hd : decode cc pc = .ok (.astore i, 2)) (hp : pc + 2 = pc1) (hn : i < nL) (hc : noL L i = true) {L1 : List (Option Value)} (hk1 : (L.set i (some .null)) = L1) (k : Jd y cc nL rt d tc ts K c0 s0 S pc1 L1 st) : Jd y cc nL rt d tc ts K c0 s0 S pc L (.null :: st) := by
  intro p l e R s m args below meth c D q A Q C hR H locs ls hP hS hl
  have C0 := C
  obtain ⟨hx, hb, hml, hown, hts, hrt, hlk, hini, hKK, hA, hdf, hdl, htc, hts2⟩ := C
  have hK := hKK.1
  subst hp
  refine lv_astoreN (lv := lvp L) hx hb hd  hl.has hn rfl (fun ls1 h1 => ?_)
  subst hk1
  exact k p l e R s m args below meth c D q A Q C0 hR H locs ls1 hP hS (lvL.set1 hc h1)
theorem J_iinc {pc1 i : Nat} {n a : Int} (hd : decode cc pc = .ok (.iinc i n, 3)) (hp : pc + 3 = pc1) (hL : L[i]? = some (some (.int (iI a)))) (hn : i < nL) (hc : noL L i = true) {L1 : List (Option Value)} (hk1 : L.set i (some (.int (iI (a + n)))) = L1) (k : Jd y cc nL rt d tc ts K c0 s0 S pc1 L1 st) : Jd y cc nL rt d tc ts K c0 s0 S pc L st := by
  intro p l e R s m args below meth c D q A Q C hR H locs ls hP hS hl
  have C0 := C
  obtain ⟨hx, hb, hml, hown, hts, hrt, hlk, hini, hKK, hA, hdf, hdl, htc, hts2⟩ := C
  have hK := hKK.1
  subst hp
  subst hk1
  obtain ⟨kk, hkk⟩ := List.getElem?_of_mem (lvp_mem.mpr hL)
  exact lv_iinc (lv := lvp L) (v := iI (a + n)) hx hb hd hl.has hkk (iI_add a n) hn rfl (fun ls1 h1 => k p l e R s m args below meth c D q A Q C0 hR H locs ls1 hP hS (lvL.set1 hc h1))
theorem J_iadd {pc1 : Nat} {a b : Int} (hd : decode cc pc = .ok (.iadd, 1)) (hp : pc + 1 = pc1) (k : Jd y cc nL rt d tc ts K c0 s0 S pc1 L (.int (iI (a + b)) :: st)) : Jd y cc nL rt d tc ts K c0 s0 S pc L (.int (iI b) :: .int (iI a) :: st) := by
  intro p l e R s m args below meth c D q A Q C hR H locs ls hP hS hl
  have C0 := C
  obtain ⟨hx, hb, hml, hown, hts, hrt, hlk, hini, hKK, hA, hdf, hdl, htc, hts2⟩ := C
  have hK := hKK.1
  subst hp
  refine lv_iadd hx hb hd ?_
  rw [iI_add]
  exact k p l e R s m args below meth c D q A Q C0 hR H locs ls hP hS hl
theorem J_isub {pc1 : Nat} {a b : Int} (hd : decode cc pc = .ok (.isub, 1)) (hp : pc + 1 = pc1) (k : Jd y cc nL rt d tc ts K c0 s0 S pc1 L (.int (iI (a - b)) :: st)) : Jd y cc nL rt d tc ts K c0 s0 S pc L (.int (iI b) :: .int (iI a) :: st) := by
  intro p l e R s m args below meth c D q A Q C hR H locs ls hP hS hl
  have C0 := C
  obtain ⟨hx, hb, hml, hown, hts, hrt, hlk, hini, hKK, hA, hdf, hdl, htc, hts2⟩ := C
  have hK := hKK.1
  subst hp
  refine lv_isub hx hb hd ?_
  rw [iI_sub]
  exact k p l e R s m args below meth c D q A Q C0 hR H locs ls hP hS hl
theorem J_imul {pc1 : Nat} {a b : Int} (hd : decode cc pc = .ok (.imul, 1)) (hp : pc + 1 = pc1) (k : Jd y cc nL rt d tc ts K c0 s0 S pc1 L (.int (iI (a * b)) :: st)) : Jd y cc nL rt d tc ts K c0 s0 S pc L (.int (iI b) :: .int (iI a) :: st) := by
  intro p l e R s m args below meth c D q A Q C hR H locs ls hP hS hl
  have C0 := C
  obtain ⟨hx, hb, hml, hown, hts, hrt, hlk, hini, hKK, hA, hdf, hdl, htc, hts2⟩ := C
  have hK := hKK.1
  subst hp
  refine lv_imul hx hb hd ?_
  rw [iI_mul]
  exact k p l e R s m args below meth c D q A Q C0 hR H locs ls hP hS hl
theorem J_ineg {pc1 : Nat} {a : Int} (hd : decode cc pc = .ok (.ineg, 1)) (hp : pc + 1 = pc1) (k : Jd y cc nL rt d tc ts K c0 s0 S pc1 L (.int (iI (-a)) :: st)) : Jd y cc nL rt d tc ts K c0 s0 S pc L (.int (iI a) :: st) := by
  intro p l e R s m args below meth c D q A Q C hR H locs ls hP hS hl
  have C0 := C
  obtain ⟨hx, hb, hml, hown, hts, hrt, hlk, hini, hKK, hA, hdf, hdl, htc, hts2⟩ := C
  have hK := hKK.1
  subst hp
  refine lv_ineg hx hb hd ?_
  rw [iI_neg]
  exact k p l e R s m args below meth c D q A Q C0 hR H locs ls hP hS hl
theorem J_idiv {pc1 : Nat} {a b : Int} (a1 : 0 ≤ a) (a2 : a < 2147483648) (b1 : 0 < b) (b2 : b < 2147483648) (hd : decode cc pc = .ok (.idiv, 1)) (hp : pc + 1 = pc1) (k : Jd y cc nL rt d tc ts K c0 s0 S pc1 L (.int (iI (a / b)) :: st)) : Jd y cc nL rt d tc ts K c0 s0 S pc L (.int (iI b) :: .int (iI a) :: st) := by
  intro p l e R s m args below meth c D q A Q C hR H locs ls hP hS hl
  have C0 := C
  obtain ⟨hx, hb, hml, hown, hts, hrt, hlk, hini, hKK, hA, hdf, hdl, htc, hts2⟩ := C
  have hK := hKK.1
  subst hp
  refine lv_idiv hx hb hd (fun h0 => ?_) ?_
  · have := (iI_inj (a := b) (b := 0) (by omega) b2 (by omega) (by omega)).mp h0
    omega
  · rw [iI_div a1 a2 b1 b2]
    exact k p l e R s m args below meth c D q A Q C0 hR H locs ls hP hS hl
theorem J_irem {pc1 : Nat} {a b : Int} (a1 : 0 ≤ a) (a2 : a < 2147483648) (b1 : 0 < b) (b2 : b < 2147483648) (hd : decode cc pc = .ok (.irem, 1)) (hp : pc + 1 = pc1) (k : Jd y cc nL rt d tc ts K c0 s0 S pc1 L (.int (iI (a % b)) :: st)) : Jd y cc nL rt d tc ts K c0 s0 S pc L (.int (iI b) :: .int (iI a) :: st) := by
  intro p l e R s m args below meth c D q A Q C hR H locs ls hP hS hl
  have C0 := C
  obtain ⟨hx, hb, hml, hown, hts, hrt, hlk, hini, hKK, hA, hdf, hdl, htc, hts2⟩ := C
  have hK := hKK.1
  subst hp
  refine lv_irem hx hb hd (fun h0 => ?_) ?_
  · have := (iI_inj (a := b) (b := 0) (by omega) b2 (by omega) (by omega)).mp h0
    omega
  · rw [iI_div a1 a2 b1 b2, iI_mul, iI_sub, show a - a / b * b = a % b by rw [Int.emod_def, Int.mul_comm]]
    exact k p l e R s m args below meth c D q A Q C0 hR H locs ls hP hS hl
theorem J_land {pc1 : Nat} {a b : Int64} (hd : decode cc pc = .ok (.land, 1)) (hp : pc + 1 = pc1) (k : Jd y cc nL rt d tc ts K c0 s0 S pc1 L (.long (a &&& b) :: st)) : Jd y cc nL rt d tc ts K c0 s0 S pc L (.long b :: .long a :: st) := by
  intro p l e R s m args below meth c D q A Q C hR H locs ls hP hS hl
  have C0 := C
  obtain ⟨hx, hb, hml, hown, hts, hrt, hlk, hini, hKK, hA, hdf, hdl, htc, hts2⟩ := C
  have hK := hKK.1
  subst hp
  exact lv_land hx hb hd (k p l e R s m args below meth c D q A Q C0 hR H locs ls hP hS hl)
theorem J_lor {pc1 : Nat} {a b : Int64} (hd : decode cc pc = .ok (.lor, 1)) (hp : pc + 1 = pc1) (k : Jd y cc nL rt d tc ts K c0 s0 S pc1 L (.long (a ||| b) :: st)) : Jd y cc nL rt d tc ts K c0 s0 S pc L (.long b :: .long a :: st) := by
  intro p l e R s m args below meth c D q A Q C hR H locs ls hP hS hl
  have C0 := C
  obtain ⟨hx, hb, hml, hown, hts, hrt, hlk, hini, hKK, hA, hdf, hdl, htc, hts2⟩ := C
  have hK := hKK.1
  subst hp
  exact lv_lor hx hb hd (k p l e R s m args below meth c D q A Q C0 hR H locs ls hP hS hl)
theorem J_ladd {pc1 : Nat} {a b : Int64} (hd : decode cc pc = .ok (.ladd, 1)) (hp : pc + 1 = pc1) (k : Jd y cc nL rt d tc ts K c0 s0 S pc1 L (.long (a + b) :: st)) : Jd y cc nL rt d tc ts K c0 s0 S pc L (.long b :: .long a :: st) := by
  intro p l e R s m args below meth c D q A Q C hR H locs ls hP hS hl
  have C0 := C
  obtain ⟨hx, hb, hml, hown, hts, hrt, hlk, hini, hKK, hA, hdf, hdl, htc, hts2⟩ := C
  have hK := hKK.1
  subst hp
  exact lv_ladd hx hb hd (k p l e R s m args below meth c D q A Q C0 hR H locs ls hP hS hl)
theorem J_lsub {pc1 : Nat} {a b : Int64} (hd : decode cc pc = .ok (.lsub, 1)) (hp : pc + 1 = pc1) (k : Jd y cc nL rt d tc ts K c0 s0 S pc1 L (.long (a - b) :: st)) : Jd y cc nL rt d tc ts K c0 s0 S pc L (.long b :: .long a :: st) := by
  intro p l e R s m args below meth c D q A Q C hR H locs ls hP hS hl
  have C0 := C
  obtain ⟨hx, hb, hml, hown, hts, hrt, hlk, hini, hKK, hA, hdf, hdl, htc, hts2⟩ := C
  have hK := hKK.1
  subst hp
  exact lv_lsub hx hb hd (k p l e R s m args below meth c D q A Q C0 hR H locs ls hP hS hl)
theorem J_iand {pc1 : Nat} {a b : Int32} (hd : decode cc pc = .ok (.iand, 1)) (hp : pc + 1 = pc1) (k : Jd y cc nL rt d tc ts K c0 s0 S pc1 L (.int (a &&& b) :: st)) : Jd y cc nL rt d tc ts K c0 s0 S pc L (.int b :: .int a :: st) := by
  intro p l e R s m args below meth c D q A Q C hR H locs ls hP hS hl
  have C0 := C
  obtain ⟨hx, hb, hml, hown, hts, hrt, hlk, hini, hKK, hA, hdf, hdl, htc, hts2⟩ := C
  have hK := hKK.1
  subst hp
  exact lv_iand hx hb hd (k p l e R s m args below meth c D q A Q C0 hR H locs ls hP hS hl)
theorem J_ior {pc1 : Nat} {a b : Int32} (hd : decode cc pc = .ok (.ior, 1)) (hp : pc + 1 = pc1) (k : Jd y cc nL rt d tc ts K c0 s0 S pc1 L (.int (a ||| b) :: st)) : Jd y cc nL rt d tc ts K c0 s0 S pc L (.int b :: .int a :: st) := by
  intro p l e R s m args below meth c D q A Q C hR H locs ls hP hS hl
  have C0 := C
  obtain ⟨hx, hb, hml, hown, hts, hrt, hlk, hini, hKK, hA, hdf, hdl, htc, hts2⟩ := C
  have hK := hKK.1
  subst hp
  exact lv_ior hx hb hd (k p l e R s m args below meth c D q A Q C0 hR H locs ls hP hS hl)
theorem J_lushr {pc1 : Nat} {a v : Int64} {b : Int32} (hv : (a.toUInt64 >>> (b.toInt64.toUInt64 &&& Int64.toUInt64 63)).toInt64 = v) (hd : decode cc pc = .ok (.lushr, 1)) (hp : pc + 1 = pc1) (k : Jd y cc nL rt d tc ts K c0 s0 S pc1 L (.long v :: st)) : Jd y cc nL rt d tc ts K c0 s0 S pc L (.int b :: .long a :: st) := by
  intro p l e R s m args below meth c D q A Q C hR H locs ls hP hS hl
  have C0 := C
  obtain ⟨hx, hb, hml, hown, hts, hrt, hlk, hini, hKK, hA, hdf, hdl, htc, hts2⟩ := C
  have hK := hKK.1
  subst hp
  exact lv_lushr hx hb hd hv (k p l e R s m args below meth c D q A Q C0 hR H locs ls hP hS hl)
theorem J_lshl {pc1 : Nat} {a v : Int64} {b : Int32} (hv : a <<< (b.toInt64 &&& 63) = v) (hd : decode cc pc = .ok (.lshl, 1)) (hp : pc + 1 = pc1) (k : Jd y cc nL rt d tc ts K c0 s0 S pc1 L (.long v :: st)) : Jd y cc nL rt d tc ts K c0 s0 S pc L (.int b :: .long a :: st) := by
  intro p l e R s m args below meth c D q A Q C hR H locs ls hP hS hl
  have C0 := C
  obtain ⟨hx, hb, hml, hown, hts, hrt, hlk, hini, hKK, hA, hdf, hdl, htc, hts2⟩ := C
  have hK := hKK.1
  subst hp
  exact lv_lshl hx hb hd hv (k p l e R s m args below meth c D q A Q C0 hR H locs ls hP hS hl)
theorem J_i2l {pc1 : Nat} {x : Int32} (hd : decode cc pc = .ok (.i2l, 1)) (hp : pc + 1 = pc1) (k : Jd y cc nL rt d tc ts K c0 s0 S pc1 L (.long x.toInt64 :: st)) : Jd y cc nL rt d tc ts K c0 s0 S pc L (.int x :: st) := by
  intro p l e R s m args below meth c D q A Q C hR H locs ls hP hS hl
  have C0 := C
  obtain ⟨hx, hb, hml, hown, hts, hrt, hlk, hini, hKK, hA, hdf, hdl, htc, hts2⟩ := C
  have hK := hKK.1
  subst hp
  exact lv_i2l hx hb hd rfl (k p l e R s m args below meth c D q A Q C0 hR H locs ls hP hS hl)
theorem J_l2i {pc1 : Nat} {x : Int64} (hd : decode cc pc = .ok (.l2i, 1)) (hp : pc + 1 = pc1) (k : Jd y cc nL rt d tc ts K c0 s0 S pc1 L (.int x.toInt32 :: st)) : Jd y cc nL rt d tc ts K c0 s0 S pc L (.long x :: st) := by
  intro p l e R s m args below meth c D q A Q C hR H locs ls hP hS hl
  have C0 := C
  obtain ⟨hx, hb, hml, hown, hts, hrt, hlk, hini, hKK, hA, hdf, hdl, htc, hts2⟩ := C
  have hK := hKK.1
  subst hp
  exact lv_l2i hx hb hd rfl (k p l e R s m args below meth c D q A Q C0 hR H locs ls hP hS hl)
theorem J_lcmp {pc1 : Nat} {a b : Int64} {v : Int32} (hv : lg_cmp a b = v) (hd : decode cc pc = .ok (.lcmp, 1)) (hp : pc + 1 = pc1) (k : Jd y cc nL rt d tc ts K c0 s0 S pc1 L (.int v :: st)) : Jd y cc nL rt d tc ts K c0 s0 S pc L (.long b :: .long a :: st) := by
  intro p l e R s m args below meth c D q A Q C hR H locs ls hP hS hl
  have C0 := C
  obtain ⟨hx, hb, hml, hown, hts, hrt, hlk, hini, hKK, hA, hdf, hdl, htc, hts2⟩ := C
  have hK := hKK.1
  subst hp
  refine W.lcmp hx hb hd ?_
  exact (show lg_cmp a b = v from hv) ▸ k p l e R s m args below meth c D q A Q C0 hR H locs ls hP hS hl
theorem J_dup {pc1 : Nat} {v : Value} (hv : v.category = 1) (hd : decode cc pc = .ok (.dup, 1)) (hp : pc + 1 = pc1) (k : Jd y cc nL rt d tc ts K c0 s0 S pc1 L (v :: v :: st)) : Jd y cc nL rt d tc ts K c0 s0 S pc L (v :: st) := by
  intro p l e R s m args below meth c D q A Q C hR H locs ls hP hS hl
  have C0 := C
  obtain ⟨hx, hb, hml, hown, hts, hrt, hlk, hini, hKK, hA, hdf, hdl, htc, hts2⟩ := C
  have hK := hKK.1
  subst hp
  exact lv_dup hx hb hd hv (k p l e R s m args below meth c D q A Q C0 hR H locs ls hP hS hl)
theorem J_pop {pc1 : Nat} {v : Value} (hv : v.category = 1) (hd : decode cc pc = .ok (.pop, 1)) (hp : pc + 1 = pc1) (k : Jd y cc nL rt d tc ts K c0 s0 S pc1 L st) : Jd y cc nL rt d tc ts K c0 s0 S pc L (v :: st) := by
  intro p l e R s m args below meth c D q A Q C hR H locs ls hP hS hl
  have C0 := C
  obtain ⟨hx, hb, hml, hown, hts, hrt, hlk, hini, hKK, hA, hdf, hdl, htc, hts2⟩ := C
  have hK := hKK.1
  subst hp
  exact lv_pop hx hb hd hv (k p l e R s m args below meth c D q A Q C0 hR H locs ls hP hS hl)
theorem J_dup2 {pc1 : Nat} {v w : Value} (hv : v.category = 1) (hw : w.category = 1) (hd : decode cc pc = .ok (.dup2, 1)) (hp : pc + 1 = pc1) (k : Jd y cc nL rt d tc ts K c0 s0 S pc1 L (v :: w :: v :: w :: st)) : Jd y cc nL rt d tc ts K c0 s0 S pc L (v :: w :: st) := by
  intro p l e R s m args below meth c D q A Q C hR H locs ls hP hS hl
  have C0 := C
  obtain ⟨hx, hb, hml, hown, hts, hrt, hlk, hini, hKK, hA, hdf, hdl, htc, hts2⟩ := C
  have hK := hKK.1
  subst hp
  exact lv_dup2_11 hx hb hd hv hw (k p l e R s m args below meth c D q A Q C0 hR H locs ls hP hS hl)
theorem J_goto {off : Int} {tgt : Nat} (hd : decode cc pc = .ok (.goto off, 3)) (ht : (pc : Int) + off = (tgt : Int)) (k : Jd y cc nL rt d tc ts K c0 s0 S tgt L st) : Jd y cc nL rt d tc ts K c0 s0 S pc L st := by
  intro p l e R s m args below meth c D q A Q C hR H locs ls hP hS hl
  have C0 := C
  obtain ⟨hx, hb, hml, hown, hts, hrt, hlk, hini, hKK, hA, hdf, hdl, htc, hts2⟩ := C
  have hK := hKK.1
  exact lv_goto hx hb hd ht (k p l e R s m args below meth c D q A Q C0 hR H locs ls hP hS hl)
theorem J_if_eq {off : Int} {tgt pc1 : Nat} {a : Int} (a1 : -2147483648 ≤ a) (a2 : a < 2147483648) (hd : decode cc pc = .ok (.ifCond .eq off, 3)) (ht : (pc : Int) + off = (tgt : Int)) (hp : pc + 3 = pc1) (kt : a = 0 → Jd y cc nL rt d tc ts K c0 s0 S tgt L st) (kf : ¬ a = 0 → Jd y cc nL rt d tc ts K c0 s0 S pc1 L st) : Jd y cc nL rt d tc ts K c0 s0 S pc L (.int (iI a) :: st) := by
  intro p l e R s m args below meth c D q A Q C hR H locs ls hP hS hl
  have C0 := C
  obtain ⟨hx, hb, hml, hown, hts, hrt, hlk, hini, hKK, hA, hdf, hdl, htc, hts2⟩ := C
  have hK := hKK.1
  subst hp
  exact lv_if_eq hx hb hd ht (fun h9 => kt ((iI_inj (a := a) (b := 0) a1 a2 (by omega) (by omega)).mp h9) p l e R s m args below meth c D q A Q C0 hR H locs ls hP hS hl) (fun h9 => kf (fun z => h9 ((iI_inj (a := a) (b := 0) a1 a2 (by omega) (by omega)).mpr z)) p l e R s m args below meth c D q A Q C0 hR H locs ls hP hS hl)
theorem J_icmp_eq {off : Int} {tgt pc1 : Nat} {a b : Int} (a1 : -2147483648 ≤ a) (a2 : a < 2147483648) (b1 : -2147483648 ≤ b) (b2 : b < 2147483648) (hd : decode cc pc = .ok (.if_icmp .eq off, 3)) (ht : (pc : Int) + off = (tgt : Int)) (hp : pc + 3 = pc1) (kt : a = b → Jd y cc nL rt d tc ts K c0 s0 S tgt L st) (kf : ¬ a = b → Jd y cc nL rt d tc ts K c0 s0 S pc1 L st) : Jd y cc nL rt d tc ts K c0 s0 S pc L (.int (iI b) :: .int (iI a) :: st) := by
  intro p l e R s m args below meth c D q A Q C hR H locs ls hP hS hl
  have C0 := C
  obtain ⟨hx, hb, hml, hown, hts, hrt, hlk, hini, hKK, hA, hdf, hdl, htc, hts2⟩ := C
  have hK := hKK.1
  subst hp
  exact lv_icmp_eq hx hb hd ht (fun h9 => kt ((iI_inj (a := a) (b := b) a1 a2 b1 b2).mp h9) p l e R s m args below meth c D q A Q C0 hR H locs ls hP hS hl) (fun h9 => kf (fun z => h9 ((iI_inj (a := a) (b := b) a1 a2 b1 b2).mpr z)) p l e R s m args below meth c D q A Q C0 hR H locs ls hP hS hl)
theorem J_if_ne {off : Int} {tgt pc1 : Nat} {a : Int} (a1 : -2147483648 ≤ a) (a2 : a < 2147483648) (hd : decode cc pc = .ok (.ifCond .ne off, 3)) (ht : (pc : Int) + off = (tgt : Int)) (hp : pc + 3 = pc1) (kt : ¬ a = 0 → Jd y cc nL rt d tc ts K c0 s0 S tgt L st) (kf : a = 0 → Jd y cc nL rt d tc ts K c0 s0 S pc1 L st) : Jd y cc nL rt d tc ts K c0 s0 S pc L (.int (iI a) :: st) := by
  intro p l e R s m args below meth c D q A Q C hR H locs ls hP hS hl
  have C0 := C
  obtain ⟨hx, hb, hml, hown, hts, hrt, hlk, hini, hKK, hA, hdf, hdl, htc, hts2⟩ := C
  have hK := hKK.1
  subst hp
  exact lv_if_ne hx hb hd ht (fun h9 => kt (fun z => h9 ((iI_inj (a := a) (b := 0) a1 a2 (by omega) (by omega)).mpr z)) p l e R s m args below meth c D q A Q C0 hR H locs ls hP hS hl) (fun h9 => kf ((iI_inj (a := a) (b := 0) a1 a2 (by omega) (by omega)).mp h9) p l e R s m args below meth c D q A Q C0 hR H locs ls hP hS hl)
theorem J_icmp_ne {off : Int} {tgt pc1 : Nat} {a b : Int} (a1 : -2147483648 ≤ a) (a2 : a < 2147483648) (b1 : -2147483648 ≤ b) (b2 : b < 2147483648) (hd : decode cc pc = .ok (.if_icmp .ne off, 3)) (ht : (pc : Int) + off = (tgt : Int)) (hp : pc + 3 = pc1) (kt : ¬ a = b → Jd y cc nL rt d tc ts K c0 s0 S tgt L st) (kf : a = b → Jd y cc nL rt d tc ts K c0 s0 S pc1 L st) : Jd y cc nL rt d tc ts K c0 s0 S pc L (.int (iI b) :: .int (iI a) :: st) := by
  intro p l e R s m args below meth c D q A Q C hR H locs ls hP hS hl
  have C0 := C
  obtain ⟨hx, hb, hml, hown, hts, hrt, hlk, hini, hKK, hA, hdf, hdl, htc, hts2⟩ := C
  have hK := hKK.1
  subst hp
  exact lv_icmp_ne hx hb hd ht (fun h9 => kt (fun z => h9 ((iI_inj (a := a) (b := b) a1 a2 b1 b2).mpr z)) p l e R s m args below meth c D q A Q C0 hR H locs ls hP hS hl) (fun h9 => kf ((iI_inj (a := a) (b := b) a1 a2 b1 b2).mp h9) p l e R s m args below meth c D q A Q C0 hR H locs ls hP hS hl)
theorem J_if_lt {off : Int} {tgt pc1 : Nat} {a : Int} (a1 : -2147483648 ≤ a) (a2 : a < 2147483648) (hd : decode cc pc = .ok (.ifCond .lt off, 3)) (ht : (pc : Int) + off = (tgt : Int)) (hp : pc + 3 = pc1) (kt : a < 0 → Jd y cc nL rt d tc ts K c0 s0 S tgt L st) (kf : ¬ a < 0 → Jd y cc nL rt d tc ts K c0 s0 S pc1 L st) : Jd y cc nL rt d tc ts K c0 s0 S pc L (.int (iI a) :: st) := by
  intro p l e R s m args below meth c D q A Q C hR H locs ls hP hS hl
  have C0 := C
  obtain ⟨hx, hb, hml, hown, hts, hrt, hlk, hini, hKK, hA, hdf, hdl, htc, hts2⟩ := C
  have hK := hKK.1
  subst hp
  exact lv_if_lt hx hb hd ht (fun h9 => kt ((iI_lt (a := a) (b := 0) a1 a2 (by omega) (by omega)).mp h9) p l e R s m args below meth c D q A Q C0 hR H locs ls hP hS hl) (fun h9 => kf (fun z => h9 ((iI_lt (a := a) (b := 0) a1 a2 (by omega) (by omega)).mpr z)) p l e R s m args below meth c D q A Q C0 hR H locs ls hP hS hl)
theorem J_icmp_lt {off : Int} {tgt pc1 : Nat} {a b : Int} (a1 : -2147483648 ≤ a) (a2 : a < 2147483648) (b1 : -2147483648 ≤ b) (b2 : b < 2147483648) (hd : decode cc pc = .ok (.if_icmp .lt off, 3)) (ht : (pc : Int) + off = (tgt : Int)) (hp : pc + 3 = pc1) (kt : a < b → Jd y cc nL rt d tc ts K c0 s0 S tgt L st) (kf : ¬ a < b → Jd y cc nL rt d tc ts K c0 s0 S pc1 L st) : Jd y cc nL rt d tc ts K c0 s0 S pc L (.int (iI b) :: .int (iI a) :: st) := by
  intro p l e R s m args below meth c D q A Q C hR H locs ls hP hS hl
  have C0 := C
  obtain ⟨hx, hb, hml, hown, hts, hrt, hlk, hini, hKK, hA, hdf, hdl, htc, hts2⟩ := C
  have hK := hKK.1
  subst hp
  exact lv_icmp_lt hx hb hd ht (fun h9 => kt ((iI_lt (a := a) (b := b) a1 a2 b1 b2).mp h9) p l e R s m args below meth c D q A Q C0 hR H locs ls hP hS hl) (fun h9 => kf (fun z => h9 ((iI_lt (a := a) (b := b) a1 a2 b1 b2).mpr z)) p l e R s m args below meth c D q A Q C0 hR H locs ls hP hS hl)
theorem J_if_ge {off : Int} {tgt pc1 : Nat} {a : Int} (a1 : -2147483648 ≤ a) (a2 : a < 2147483648) (hd : decode cc pc = .ok (.ifCond .ge off, 3)) (ht : (pc : Int) + off = (tgt : Int)) (hp : pc + 3 = pc1) (kt : 0 ≤ a → Jd y cc nL rt d tc ts K c0 s0 S tgt L st) (kf : ¬ 0 ≤ a → Jd y cc nL rt d tc ts K c0 s0 S pc1 L st) : Jd y cc nL rt d tc ts K c0 s0 S pc L (.int (iI a) :: st) := by
  intro p l e R s m args below meth c D q A Q C hR H locs ls hP hS hl
  have C0 := C
  obtain ⟨hx, hb, hml, hown, hts, hrt, hlk, hini, hKK, hA, hdf, hdl, htc, hts2⟩ := C
  have hK := hKK.1
  subst hp
  exact lv_if_ge hx hb hd ht (fun h9 => kt ((iI_le (a := 0) (b := a) (by omega) (by omega) a1 a2).mp h9) p l e R s m args below meth c D q A Q C0 hR H locs ls hP hS hl) (fun h9 => kf (fun z => h9 ((iI_le (a := 0) (b := a) (by omega) (by omega) a1 a2).mpr z)) p l e R s m args below meth c D q A Q C0 hR H locs ls hP hS hl)
theorem J_icmp_ge {off : Int} {tgt pc1 : Nat} {a b : Int} (a1 : -2147483648 ≤ a) (a2 : a < 2147483648) (b1 : -2147483648 ≤ b) (b2 : b < 2147483648) (hd : decode cc pc = .ok (.if_icmp .ge off, 3)) (ht : (pc : Int) + off = (tgt : Int)) (hp : pc + 3 = pc1) (kt : b ≤ a → Jd y cc nL rt d tc ts K c0 s0 S tgt L st) (kf : ¬ b ≤ a → Jd y cc nL rt d tc ts K c0 s0 S pc1 L st) : Jd y cc nL rt d tc ts K c0 s0 S pc L (.int (iI b) :: .int (iI a) :: st) := by
  intro p l e R s m args below meth c D q A Q C hR H locs ls hP hS hl
  have C0 := C
  obtain ⟨hx, hb, hml, hown, hts, hrt, hlk, hini, hKK, hA, hdf, hdl, htc, hts2⟩ := C
  have hK := hKK.1
  subst hp
  exact lv_icmp_ge hx hb hd ht (fun h9 => kt ((iI_le (a := b) (b := a) b1 b2 a1 a2).mp h9) p l e R s m args below meth c D q A Q C0 hR H locs ls hP hS hl) (fun h9 => kf (fun z => h9 ((iI_le (a := b) (b := a) b1 b2 a1 a2).mpr z)) p l e R s m args below meth c D q A Q C0 hR H locs ls hP hS hl)
theorem J_if_gt {off : Int} {tgt pc1 : Nat} {a : Int} (a1 : -2147483648 ≤ a) (a2 : a < 2147483648) (hd : decode cc pc = .ok (.ifCond .gt off, 3)) (ht : (pc : Int) + off = (tgt : Int)) (hp : pc + 3 = pc1) (kt : 0 < a → Jd y cc nL rt d tc ts K c0 s0 S tgt L st) (kf : ¬ 0 < a → Jd y cc nL rt d tc ts K c0 s0 S pc1 L st) : Jd y cc nL rt d tc ts K c0 s0 S pc L (.int (iI a) :: st) := by
  intro p l e R s m args below meth c D q A Q C hR H locs ls hP hS hl
  have C0 := C
  obtain ⟨hx, hb, hml, hown, hts, hrt, hlk, hini, hKK, hA, hdf, hdl, htc, hts2⟩ := C
  have hK := hKK.1
  subst hp
  exact lv_if_gt hx hb hd ht (fun h9 => kt ((iI_lt (a := 0) (b := a) (by omega) (by omega) a1 a2).mp h9) p l e R s m args below meth c D q A Q C0 hR H locs ls hP hS hl) (fun h9 => kf (fun z => h9 ((iI_lt (a := 0) (b := a) (by omega) (by omega) a1 a2).mpr z)) p l e R s m args below meth c D q A Q C0 hR H locs ls hP hS hl)
theorem J_icmp_gt {off : Int} {tgt pc1 : Nat} {a b : Int} (a1 : -2147483648 ≤ a) (a2 : a < 2147483648) (b1 : -2147483648 ≤ b) (b2 : b < 2147483648) (hd : decode cc pc = .ok (.if_icmp .gt off, 3)) (ht : (pc : Int) + off = (tgt : Int)) (hp : pc + 3 = pc1) (kt : b < a → Jd y cc nL rt d tc ts K c0 s0 S tgt L st) (kf : ¬ b < a → Jd y cc nL rt d tc ts K c0 s0 S pc1 L st) : Jd y cc nL rt d tc ts K c0 s0 S pc L (.int (iI b) :: .int (iI a) :: st) := by
  intro p l e R s m args below meth c D q A Q C hR H locs ls hP hS hl
  have C0 := C
  obtain ⟨hx, hb, hml, hown, hts, hrt, hlk, hini, hKK, hA, hdf, hdl, htc, hts2⟩ := C
  have hK := hKK.1
  subst hp
  exact lv_icmp_gt hx hb hd ht (fun h9 => kt ((iI_lt (a := b) (b := a) b1 b2 a1 a2).mp h9) p l e R s m args below meth c D q A Q C0 hR H locs ls hP hS hl) (fun h9 => kf (fun z => h9 ((iI_lt (a := b) (b := a) b1 b2 a1 a2).mpr z)) p l e R s m args below meth c D q A Q C0 hR H locs ls hP hS hl)
theorem J_if_le {off : Int} {tgt pc1 : Nat} {a : Int} (a1 : -2147483648 ≤ a) (a2 : a < 2147483648) (hd : decode cc pc = .ok (.ifCond .le off, 3)) (ht : (pc : Int) + off = (tgt : Int)) (hp : pc + 3 = pc1) (kt : a ≤ 0 → Jd y cc nL rt d tc ts K c0 s0 S tgt L st) (kf : ¬ a ≤ 0 → Jd y cc nL rt d tc ts K c0 s0 S pc1 L st) : Jd y cc nL rt d tc ts K c0 s0 S pc L (.int (iI a) :: st) := by
  intro p l e R s m args below meth c D q A Q C hR H locs ls hP hS hl
  have C0 := C
  obtain ⟨hx, hb, hml, hown, hts, hrt, hlk, hini, hKK, hA, hdf, hdl, htc, hts2⟩ := C
  have hK := hKK.1
  subst hp
  exact lv_if_le hx hb hd ht (fun h9 => kt ((iI_le (a := a) (b := 0) a1 a2 (by omega) (by omega)).mp h9) p l e R s m args below meth c D q A Q C0 hR H locs ls hP hS hl) (fun h9 => kf (fun z => h9 ((iI_le (a := a) (b := 0) a1 a2 (by omega) (by omega)).mpr z)) p l e R s m args below meth c D q A Q C0 hR H locs ls hP hS hl)
theorem J_icmp_le {off : Int} {tgt pc1 : Nat} {a b : Int} (a1 : -2147483648 ≤ a) (a2 : a < 2147483648) (b1 : -2147483648 ≤ b) (b2 : b < 2147483648) (hd : decode cc pc = .ok (.if_icmp .le off, 3)) (ht : (pc : Int) + off = (tgt : Int)) (hp : pc + 3 = pc1) (kt : a ≤ b → Jd y cc nL rt d tc ts K c0 s0 S tgt L st) (kf : ¬ a ≤ b → Jd y cc nL rt d tc ts K c0 s0 S pc1 L st) : Jd y cc nL rt d tc ts K c0 s0 S pc L (.int (iI b) :: .int (iI a) :: st) := by
  intro p l e R s m args below meth c D q A Q C hR H locs ls hP hS hl
  have C0 := C
  obtain ⟨hx, hb, hml, hown, hts, hrt, hlk, hini, hKK, hA, hdf, hdl, htc, hts2⟩ := C
  have hK := hKK.1
  subst hp
  exact lv_icmp_le hx hb hd ht (fun h9 => kt ((iI_le (a := a) (b := b) a1 a2 b1 b2).mp h9) p l e R s m args below meth c D q A Q C0 hR H locs ls hP hS hl) (fun h9 => kf (fun z => h9 ((iI_le (a := a) (b := b) a1 a2 b1 b2).mpr z)) p l e R s m args below meth c D q A Q C0 hR H locs ls hP hS hl)
theorem J_ifnull {off : Int} {pc1 x : Nat} (hd : decode cc pc = .ok (.ifnull off, 3)) (hp : pc + 3 = pc1) (k : Jd y cc nL rt d tc ts K c0 s0 S pc1 L st) : Jd y cc nL rt d tc ts K c0 s0 S pc L (.ref x :: st) := by
  intro p l e R s m args below meth c D q A Q C hR H locs ls hP hS hl
  have C0 := C
  obtain ⟨hx, hb, hml, hown, hts, hrt, hlk, hini, hKK, hA, hdf, hdl, htc, hts2⟩ := C
  have hK := hKK.1
  subst hp
  exact lv_ifnull hx hb hd (k p l e R s m args below meth c D q A Q C0 hR H locs ls hP hS hl)
theorem J_ifnullN {off : Int} {tgt : Nat} (hd : decode cc pc = .ok (.ifnull off, 3)) (ht : (pc : Int) + off = (tgt : Int)) (k : Jd y cc nL rt d tc ts K c0 s0 S tgt L st) : Jd y cc nL rt d tc ts K c0 s0 S pc L (.null :: st) := by
  intro p l e R s m args below meth c D q A Q C hR H locs ls hP hS hl
  have C0 := C
  obtain ⟨hx, hb, hml, hown, hts, hrt, hlk, hini, hKK, hA, hdf, hdl, htc, hts2⟩ := C
  have hK := hKK.1
  exact lv_ifnullN hx hb hd ht (k p l e R s m args below meth c D q A Q C0 hR H locs ls hP hS hl)
theorem J_ifnonnull {off : Int} {tgt x : Nat} (hd : decode cc pc = .ok (.ifnonnull off, 3)) (ht : (pc : Int) + off = (tgt : Int)) (k : Jd y cc nL rt d tc ts K c0 s0 S tgt L st) : Jd y cc nL rt d tc ts K c0 s0 S pc L (.ref x :: st) := by
  intro p l e R s m args below meth c D q A Q C hR H locs ls hP hS hl
  have C0 := C
  obtain ⟨hx, hb, hml, hown, hts, hrt, hlk, hini, hKK, hA, hdf, hdl, htc, hts2⟩ := C
  have hK := hKK.1
  exact lv_ifnonnull hx hb hd ht (k p l e R s m args below meth c D q A Q C0 hR H locs ls hP hS hl)
theorem J_ifnonnullN {off : Int} {pc1 : Nat} (hd : decode cc pc = .ok (.ifnonnull off, 3)) (hp : pc + 3 = pc1) (k : Jd y cc nL rt d tc ts K c0 s0 S pc1 L st) : Jd y cc nL rt d tc ts K c0 s0 S pc L (.null :: st) := by
  intro p l e R s m args below meth c D q A Q C hR H locs ls hP hS hl
  have C0 := C
  obtain ⟨hx, hb, hml, hown, hts, hrt, hlk, hini, hKK, hA, hdf, hdl, htc, hts2⟩ := C
  have hK := hKK.1
  subst hp
  exact lv_ifnonnullN hx hb hd (k p l e R s m args below meth c D q A Q C0 hR H locs ls hP hS hl)
theorem J_tableOut {dflt lo hi : Int} {offs : Array Int} {len tgt : Nat} {a : Int} (a1 : -2147483648 ≤ a) (a2 : a < 2147483648) (hd : decode cc pc = .ok (.tableswitch dflt lo hi offs, len)) (h : a < lo ∨ hi < a) (ht : (pc : Int) + dflt = (tgt : Int)) (k : Jd y cc nL rt d tc ts K c0 s0 S tgt L st) : Jd y cc nL rt d tc ts K c0 s0 S pc L (.int (iI a) :: st) := by
  intro p l e R s m args below meth c D q A Q C hR H locs ls hP hS hl
  have C0 := C
  obtain ⟨hx, hb, hml, hown, hts, hrt, hlk, hini, hKK, hA, hdf, hdl, htc, hts2⟩ := C
  have hK := hKK.1
  exact lv_tableOut hx hb hd (by rw [iI_to a1 a2]; exact h) ht (k p l e R s m args below meth c D q A Q C0 hR H locs ls hP hS hl)
theorem J_tableIn {dflt lo hi off : Int} {offs : Array Int} {len tgt : Nat} {a : Int} (a1 : -2147483648 ≤ a) (a2 : a < 2147483648) (hd : decode cc pc = .ok (.tableswitch dflt lo hi offs, len)) (h1 : ¬ a < lo) (h2 : ¬ hi < a) (ho : offs[(a - lo).toNat]? = some off) (ht : (pc : Int) + off = (tgt : Int)) (k : Jd y cc nL rt d tc ts K c0 s0 S tgt L st) : Jd y cc nL rt d tc ts K c0 s0 S pc L (.int (iI a) :: st) := by
  intro p l e R s m args below meth c D q A Q C hR H locs ls hP hS hl
  have C0 := C
  obtain ⟨hx, hb, hml, hown, hts, hrt, hlk, hini, hKK, hA, hdf, hdl, htc, hts2⟩ := C
  have hK := hKK.1
  exact lv_tableIn hx hb hd (by rw [iI_to a1 a2]; exact h1) (by rw [iI_to a1 a2]; exact h2) (by rw [iI_to a1 a2]; exact ho) ht (k p l e R s m args below meth c D q A Q C0 hR H locs ls hP hS hl)
theorem J_lookup {dflt off : Int} {ps : Array (Int × Int)} {len tgt : Nat} {a : Int} (a1 : -2147483648 ≤ a) (a2 : a < 2147483648) (hd : decode cc pc = .ok (.lookupswitch dflt ps, len)) (hq : (ps.toList.zip (ps.toList.drop 1)).all (fun (a, next) => a.1 < next.1) = true) (ho : Op.lookupswitch.offset ps.toList dflt a = off) (ht : (pc : Int) + off = (tgt : Int)) (k : Jd y cc nL rt d tc ts K c0 s0 S tgt L st) : Jd y cc nL rt d tc ts K c0 s0 S pc L (.int (iI a) :: st) := by
  intro p l e R s m args below meth c D q A Q C hR H locs ls hP hS hl
  have C0 := C
  obtain ⟨hx, hb, hml, hown, hts, hrt, hlk, hini, hKK, hA, hdf, hdl, htc, hts2⟩ := C
  have hK := hKK.1
  exact lv_lookup hx hb hd hq (by rw [iI_to a1 a2]; exact ho) ht (k p l e R s m args below meth c D q A Q C0 hR H locs ls hP hS hl)
theorem J_get {pc1 a ci ix N j : Nat} {C : String} {T : u_T} {fs : List Value} {v : Value} (hin : ∀ w ∈ u_ws C T N, w ∈ wsU) (hc : vwCl[ci]? = some (C, T, N)) (hj : j < N) (hw : Cond.fieldLink y.cls ix (T j).1 (T j).2.1 (T j).2.2.1 ∈ wsU) (hd : decode cc pc = .ok (.getfield ix, 3)) (hp : pc + 3 = pc1) (ha : S a = some (oO ci fs)) (hv : fs[j]? = some v) (k : Jd y cc nL rt d tc ts K c0 s0 S pc1 L (v :: st)) : Jd y cc nL rt d tc ts K c0 s0 S pc L (.ref a :: st) := by
  intro p l e R s m args below meth c D q A Q C hR H locs ls hP hS hl
  have C0 := C
  obtain ⟨hx, hb, hml, hown, hts, hrt, hlk, hini, hKK, hA, hdf, hdl, htc, hts2⟩ := C
  have hK := hKK.1
  subst hp
  obtain ⟨L1, f1, k1, g1, g2, g3, -⟩ := hP.at ha
  exact va_get hx hb hts hin hown hK g1 k1 g3 hc j hj (hts _ hw) (fun _ h => h) hv hd (k p l e R s m args below meth c D q A Q C0 hR H locs ls hP hS hl)
theorem J_put {pc1 a ci ix N j : Nat} {C : String} {T : u_T} {fs fs1 : List Value} {v : Value} {ty : FieldType} (hin : ∀ w ∈ u_ws C T N, w ∈ wsU) (hc : vwCl[ci]? = some (C, T, N)) (hj : j < N) (ty0 : Nat → FieldType) (hty : ∀ k, k < N → parseFieldDescriptor (T k).2.2.1 = some (ty0 k)) (hnm : ∀ a, a < N → ∀ b, b < N → a ≠ b → (T a).2.1 ≠ (T b).2.1) (hf : (T j).2.2.2 = false) (hpf : parseFieldDescriptor (T j).2.2.1 = some ty) (hw : Cond.fieldLink y.cls ix (T j).1 (T j).2.1 (T j).2.2.1 ∈ wsU) (hd : decode cc pc = .ok (.putfield ix, 3)) (hp : pc + 3 = pc1) (ha : S a = some (oO ci fs)) (hnv : narrow ty v = v) (hft : fits ty v = true) (hlen : j < fs.length) (hfs : fs.set j v = fs1) (k : Jd y cc nL rt d tc ts K c0 s0 (pu S a (oO ci fs1)) pc1 L st) : Jd y cc nL rt d tc ts K c0 s0 S pc L (v :: .ref a :: st) := by
  intro p l e R s m args below meth c D q A Q C hR H locs ls hP hS hl
  have C0 := C
  obtain ⟨hx, hb, hml, hown, hts, hrt, hlk, hini, hKK, hA, hdf, hdl, htc, hts2⟩ := C
  have hK := hKK.1
  subst hp
  subst hfs
  obtain ⟨L1, f1, k1, g1, g2, g3, g4, -⟩ := hP.at ha
  exact va_put hx hb hts hin ty0 hty hnm hown hK g1 g2 hS k1 g3 hc j hj (hts _ hw) (fun _ h => h) hf hpf hnv hft hlen hd (fun H1 locs1 p1 p2 p3 => k p l e R s m args below meth c D q A Q C0 hR H1 locs1 ls (g4 (oO ci (fs.set j v)) H1 p1 p2) p3 hl)
theorem J_putF {pc1 a ci ix N j : Nat} {C : String} {T : u_T} {fs fs1 : List Value} {v : Value} {ty : FieldType} (hin : ∀ w ∈ u_ws C T N, w ∈ wsU) (hc : vwCl[ci]? = some (C, T, N)) (hj : j < N) (ty0 : Nat → FieldType) (hty : ∀ k, k < N → parseFieldDescriptor (T k).2.2.1 = some (ty0 k)) (hnm : ∀ a, a < N → ∀ b, b < N → a ≠ b → (T a).2.1 ≠ (T b).2.1) (hf : (T j).2.2.2 = true) (hy1 : y.name = "<init>") (hy2 : (T j).1 = y.cls) (hpf : parseFieldDescriptor (T j).2.2.1 = some ty) (hw : Cond.fieldLink y.cls ix (T j).1 (T j).2.1 (T j).2.2.1 ∈ wsU) (hd : decode cc pc = .ok (.putfield ix, 3)) (hp : pc + 3 = pc1) (ha : S a = some (oO ci fs)) (hnv : narrow ty v = v) (hft : fits ty v = true) (hlen : j < fs.length) (hfs : fs.set j v = fs1) (k : Jd y cc nL rt d tc ts K c0 s0 (pu S a (oO ci fs1)) pc1 L st) : Jd y cc nL rt d tc ts K c0 s0 S pc L (v :: .ref a :: st) := by
  intro p l e R s m args below meth c D q A Q C hR H locs ls hP hS hl
  have C0 := C
  obtain ⟨hx, hb, hml, hown, hts, hrt, hlk, hini, hKK, hA, hdf, hdl, htc, hts2⟩ := C
  have hK := hKK.1
  subst hp
  subst hfs
  obtain ⟨L1, f1, k1, g1, g2, g3, g4, -⟩ := hP.at ha
  exact va_putF hx hb hts hin ty0 hty hnm hown hK g1 g2 hS k1 g3 hc j hj (hts _ hw) (fun _ h => h) hf (hini hy1) hy2 hpf hnv hft hlen hd (fun H1 locs1 p1 p2 p3 => k p l e R s m args below meth c D q A Q C0 hR H1 locs1 ls (g4 (oO ci (fs.set j v)) H1 p1 p2) p3 hl)
theorem J_iald {pc1 a n : Nat} {f : Int → Int} {z : Int} (hd : decode cc pc = .ok (.iaload, 1)) (hp : pc + 1 = pc1) (ha : S a = some (aI n f)) (h0 : 0 ≤ z) (h1 : z < n) (hn : n < 2147483648) (k : Jd y cc nL rt d tc ts K c0 s0 S pc1 L (.int (iI (f z)) :: st)) : Jd y cc nL rt d tc ts K c0 s0 S pc L (.int (iI z) :: .ref a :: st) := by
  intro p l e R s m args below meth c D q A Q C hR H locs ls hP hS hl
  have C0 := C
  obtain ⟨hx, hb, hml, hown, hts, hrt, hlk, hini, hKK, hA, hdf, hdl, htc, hts2⟩ := C
  have hK := hKK.1
  subst hp
  obtain ⟨L1, f1, k1, g1, g2, g3, -⟩ := hP.at ha
  refine va_iald hx hb hK g1 k1 0 g3 rfl (iI_in h0 h1 hn) hd ?_
  rw [iI_cl h0 (by omega)]
  dsimp only
  rw [Int.toNat_of_nonneg h0]
  exact k p l e R s m args below meth c D q A Q C0 hR H locs ls hP hS hl
theorem J_iast {pc1 a n : Nat} {f : Int → Int} {z v : Int} (hd : decode cc pc = .ok (.iastore, 1)) (hp : pc + 1 = pc1) (ha : S a = some (aI n f)) (h0 : 0 ≤ z) (h1 : z < n) (hn : n < 2147483648) (k : Jd y cc nL rt d tc ts K c0 s0 (pu S a (aI n (uZ f z v))) pc1 L st) : Jd y cc nL rt d tc ts K c0 s0 S pc L (.int (iI v) :: .int (iI z) :: .ref a :: st) := by
  intro p l e R s m args below meth c D q A Q C hR H locs ls hP hS hl
  have C0 := C
  obtain ⟨hx, hb, hml, hown, hts, hrt, hlk, hini, hKK, hA, hdf, hdl, htc, hts2⟩ := C
  have hK := hKK.1
  subst hp
  obtain ⟨L1, f1, k1, g1, g2, g3, g4, -⟩ := hP.at ha
  refine va_iast hx hb hK g1 g2 hS k1 0 g3 rfl (iI_in h0 h1 hn) hd (fun H1 locs1 p1 p2 p3 => ?_)
  rw [iI_cl h0 (by omega), aI_up f v h0] at p1 p2
  exact k p l e R s m args below meth c D q A Q C0 hR H1 locs1 ls (g4 (aI n (uZ f z v)) H1 p1 p2) p3 hl
theorem J_alenI {pc1 a n : Nat} {f : Nat → Int32} (hd : decode cc pc = .ok (.arraylength, 1)) (hp : pc + 1 = pc1) (ha : S a = some (oI n f)) (k : Jd y cc nL rt d tc ts K c0 s0 S pc1 L (.int (iI n) :: st)) : Jd y cc nL rt d tc ts K c0 s0 S pc L (.ref a :: st) := by
  intro p l e R s m args below meth c D q A Q C hR H locs ls hP hS hl
  have C0 := C
  obtain ⟨hx, hb, hml, hown, hts, hrt, hlk, hini, hKK, hA, hdf, hdl, htc, hts2⟩ := C
  have hK := hKK.1
  subst hp
  obtain ⟨L1, f1, k1, g1, g2, g3, -⟩ := hP.at ha
  exact va_alen hx hb hK g1 k1 0 g3 rfl rfl hd (k p l e R s m args below meth c D q A Q C0 hR H locs ls hP hS hl)
theorem J_alenG {pc1 a n : Nat} {f : Nat → Option Nat} (hd : decode cc pc = .ok (.arraylength, 1)) (hp : pc + 1 = pc1) (ha : S a = some (oQ 0 n f)) (k : Jd y cc nL rt d tc ts K c0 s0 S pc1 L (.int (iI n) :: st)) : Jd y cc nL rt d tc ts K c0 s0 S pc L (.ref a :: st) := by
  intro p l e R s m args below meth c D q A Q C hR H locs ls hP hS hl
  have C0 := C
  obtain ⟨hx, hb, hml, hown, hts, hrt, hlk, hini, hKK, hA, hdf, hdl, htc, hts2⟩ := C
  have hK := hKK.1
  subst hp
  obtain ⟨L1, f1, k1, g1, g2, g3, -⟩ := hP.at ha
  exact va_alen hx hb hK g1 k1 1 g3 rfl rfl hd (k p l e R s m args below meth c D q A Q C0 hR H locs ls hP hS hl)
theorem J_aaldG {pc1 a n : Nat} {f : Int → Option Nat} {z : Int} (hd : decode cc pc = .ok (.aaload, 1)) (hp : pc + 1 = pc1) (ha : S a = some (aQ 0 n f)) (h0 : 0 ≤ z) (h1 : z < n) (hn : n < 2147483648) (k : Jd y cc nL rt d tc ts K c0 s0 S pc1 L (va_rf (f z) :: st)) : Jd y cc nL rt d tc ts K c0 s0 S pc L (.int (iI z) :: .ref a :: st) := by
  intro p l e R s m args below meth c D q A Q C hR H locs ls hP hS hl
  have C0 := C
  obtain ⟨hx, hb, hml, hown, hts, hrt, hlk, hini, hKK, hA, hdf, hdl, htc, hts2⟩ := C
  have hK := hKK.1
  subst hp
  obtain ⟨L1, f1, k1, g1, g2, g3, -⟩ := hP.at ha
  refine va_aldq hx hb hK g1 k1 1 g3 rfl (iI_in h0 h1 hn) hd ?_
  rw [iI_cl h0 (by omega)]
  dsimp only
  rw [Int.toNat_of_nonneg h0]
  exact k p l e R s m args below meth c D q A Q C0 hR H locs ls hP hS hl
theorem J_aastG {pc1 a b n : Nat} {f : Int → Option Nat} {fs : List Value} {z : Int} (hd : decode cc pc = .ok (.aastore, 1)) (hp : pc + 1 = pc1) (ha : S a = some (aQ 0 n f)) (hb9 : S b = some (oO 2 fs)) (h0 : 0 ≤ z) (h1 : z < n) (hn : n < 2147483648) (k : Jd y cc nL rt d tc ts K c0 s0 (pu S a (aQ 0 n (uQ f z (some b)))) pc1 L st) : Jd y cc nL rt d tc ts K c0 s0 S pc L (.ref b :: .int (iI z) :: .ref a :: st) := by
  intro p l e R s m args below meth c D q A Q C hR H locs ls hP hS hl
  have C0 := C
  obtain ⟨hx, hb, hml, hown, hts, hrt, hlk, hini, hKK, hA, hdf, hdl, htc, hts2⟩ := C
  have hK := hKK.1
  subst hp
  obtain ⟨L1, f1, k1, g1, g2, g3, g4, g5⟩ := hP.at ha
  obtain ⟨k2, hk2⟩ := g5 b _ hb9
  refine va_astq hx hb hK g1 g2 hS k1 1 k2 2 g3 rfl hk2 rfl (iI_in h0 h1 hn) hd (fun H1 locs1 p1 p2 p3 => ?_)
  rw [iI_cl h0 (by omega), aQ_up f (some b) h0] at p1 p2
  exact k p l e R s m args below meth c D q A Q C0 hR H1 locs1 ls (g4 (aQ 0 n (uQ f z (some b))) H1 p1 p2) p3 hl
theorem J_alenT {pc1 a n : Nat} {f : Nat → Option Nat} (hd : decode cc pc = .ok (.arraylength, 1)) (hp : pc + 1 = pc1) (ha : S a = some (oQ 1 n f)) (k : Jd y cc nL rt d tc ts K c0 s0 S pc1 L (.int (iI n) :: st)) : Jd y cc nL rt d tc ts K c0 s0 S pc L (.ref a :: st) := by
  intro p l e R s m args below meth c D q A Q C hR H locs ls hP hS hl
  have C0 := C
  obtain ⟨hx, hb, hml, hown, hts, hrt, hlk, hini, hKK, hA, hdf, hdl, htc, hts2⟩ := C
  have hK := hKK.1
  subst hp
  obtain ⟨L1, f1, k1, g1, g2, g3, -⟩ := hP.at ha
  exact va_alen hx hb hK g1 k1 2 g3 rfl rfl hd (k p l e R s m args below meth c D q A Q C0 hR H locs ls hP hS hl)
theorem J_aaldT {pc1 a n : Nat} {f : Int → Option Nat} {z : Int} (hd : decode cc pc = .ok (.aaload, 1)) (hp : pc + 1 = pc1) (ha : S a = some (aQ 1 n f)) (h0 : 0 ≤ z) (h1 : z < n) (hn : n < 2147483648) (k : Jd y cc nL rt d tc ts K c0 s0 S pc1 L (va_rf (f z) :: st)) : Jd y cc nL rt d tc ts K c0 s0 S pc L (.int (iI z) :: .ref a :: st) := by
  intro p l e R s m args below meth c D q A Q C hR H locs ls hP hS hl
  have C0 := C
  obtain ⟨hx, hb, hml, hown, hts, hrt, hlk, hini, hKK, hA, hdf, hdl, htc, hts2⟩ := C
  have hK := hKK.1
  subst hp
  obtain ⟨L1, f1, k1, g1, g2, g3, -⟩ := hP.at ha
  refine va_aldq hx hb hK g1 k1 2 g3 rfl (iI_in h0 h1 hn) hd ?_
  rw [iI_cl h0 (by omega)]
  dsimp only
  rw [Int.toNat_of_nonneg h0]
  exact k p l e R s m args below meth c D q A Q C0 hR H locs ls hP hS hl
theorem J_aastT {pc1 a b n : Nat} {f : Int → Option Nat} {fs : List Value} {z : Int} (hd : decode cc pc = .ok (.aastore, 1)) (hp : pc + 1 = pc1) (ha : S a = some (aQ 1 n f)) (hb9 : S b = some (oO 8 fs)) (h0 : 0 ≤ z) (h1 : z < n) (hn : n < 2147483648) (k : Jd y cc nL rt d tc ts K c0 s0 (pu S a (aQ 1 n (uQ f z (some b)))) pc1 L st) : Jd y cc nL rt d tc ts K c0 s0 S pc L (.ref b :: .int (iI z) :: .ref a :: st) := by
  intro p l e R s m args below meth c D q A Q C hR H locs ls hP hS hl
  have C0 := C
  obtain ⟨hx, hb, hml, hown, hts, hrt, hlk, hini, hKK, hA, hdf, hdl, htc, hts2⟩ := C
  have hK := hKK.1
  subst hp
  obtain ⟨L1, f1, k1, g1, g2, g3, g4, g5⟩ := hP.at ha
  obtain ⟨k2, hk2⟩ := g5 b _ hb9
  refine va_astq hx hb hK g1 g2 hS k1 2 k2 8 g3 rfl hk2 rfl (iI_in h0 h1 hn) hd (fun H1 locs1 p1 p2 p3 => ?_)
  rw [iI_cl h0 (by omega), aQ_up f (some b) h0] at p1 p2
  exact k p l e R s m args below meth c D q A Q C0 hR H1 locs1 ls (g4 (aQ 1 n (uQ f z (some b))) H1 p1 p2) p3 hl
theorem J_new {pc1 ci ix N : Nat} {C : String} {T : u_T} {fs : List Value} (hin : ∀ w ∈ u_ws C T N, w ∈ wsU) (hc : vwCl[ci]? = some (C, T, N)) (ty0 : Nat → FieldType) (hty : ∀ k, k < N → parseFieldDescriptor (T k).2.2.1 = some (ty0 k)) (hw : Cond.classLink y.cls ix C ∈ wsU) (hw2 : Cond.instantiable C N ∈ wsU) (hw3 : Cond.initialized C ∈ wsU) (hfs : ∀ j, j < N → defaultValue (ty0 j) = vp_V fs j) (hd : decode cc pc = .ok (.new ix, 3)) (hp : pc + 3 = pc1) (hc1 : c0 + 1 ≤ tc) (hs1 : s0 + N ≤ ts) (k : ∀ a : Nat, S a = none → Jd y cc nL rt d tc ts K (c0 + 1) (s0 + N) (pu S a (oO ci fs)) pc1 L (.ref a :: st)) : Jd y cc nL rt d tc ts K c0 s0 S pc L st := by
  intro p l e R s m args below meth c D q A Q C hR H locs ls hP hS hl
  have C0 := C
  obtain ⟨hx, hb, hml, hown, hts, hrt, hlk, hini, hKK, hA, hdf, hdl, htc, hts2⟩ := C
  have hK := hKK.1
  subst hp
  obtain ⟨L1, f1, h1, h2, g1, g2⟩ := hP
  refine va_new hx hb hts hin ty0 hty hown (hts _ hw) (hts _ hw2) (hts _ hw3) hK g1 g2 hS hA hc hfs (Nat.le_trans hc1 htc) (Nat.le_trans hs1 hts2) hd (fun a H1 p1 p2 p3 => ?_)
  obtain ⟨n1, n2⟩ := pH.new (e := oO ci fs) h1 h2 p1 p2
  exact k a n1 p l e R s m args below meth c D q A Q C0 hR H1 locs ls n2 p3 hl
theorem J_newI {pc1 n : Nat} {z : Int} (hw : Cond.arrayClass .int ∈ wsU) (hd : decode cc pc = .ok (.newarray .int, 2)) (hp : pc + 2 = pc1) (hz : z = n) (hn : n < 100000000) (hc1 : c0 + 1 ≤ tc) (hs1 : s0 + n ≤ ts) (k : ∀ a : Nat, S a = none → Jd y cc nL rt d tc ts K (c0 + 1) (s0 + n) (pu S a (aI n (fun _ => 0))) pc1 L (.ref a :: st)) : Jd y cc nL rt d tc ts K c0 s0 S pc L (.int (iI z) :: st) := by
  intro p l e R s m args below meth c D q A Q C hR H locs ls hP hS hl
  have C0 := C
  obtain ⟨hx, hb, hml, hown, hts, hrt, hlk, hini, hKK, hA, hdf, hdl, htc, hts2⟩ := C
  have hK := hKK.1
  subst hp
  subst hz
  obtain ⟨L1, f1, h1, h2, g1, g2⟩ := hP
  refine va_newa (atype := .int) (ty := .int) (a0 := (n, .inl (fun _ => 0))) hx hb (hts _ hw) rfl hK g1 g2 hS hA (N' := n) (fun cA => rfl) (by intro h9; have := (iI_lt (a := (n : Int)) (b := 0) (by omega) (by omega) (by omega) (by omega)).mp h9; omega) (by rw [iI_cl (by omega) (by omega)]; omega) (by show n * 4 ≤ 536870912; omega) (Nat.le_trans hc1 htc) (Nat.le_trans hs1 hts2) hd (fun a cA H1 kk p1 p2 p3 => ?_)
  have hcA : cA = q.1 := by
    have e1 := (kk.2 3 (cA, .int) rfl).2
    have e2 := (hK.2 0 (q.1, .int) rfl).2
    exact Option.some.inj (e1.symm.trans e2)
  subst hcA
  obtain ⟨n1, n2⟩ := pH.new (e := aI n (fun _ => 0)) h1 h2 p1 p2
  exact k a n1 p l e R s m args below meth c D q A Q C0 hR H1 locs ls n2 p3 hl
theorem J_newG {pc1 n ix : Nat} {z : Int} (hw : Cond.classLink y.cls ix "BorrowedHours$Game" ∈ wsU) (hd : decode cc pc = .ok (.anewarray ix, 3)) (hp : pc + 3 = pc1) (hz : z = n) (hn : n < 100000000) (hc1 : c0 + 1 ≤ tc) (hs1 : s0 + n ≤ ts) (k : ∀ a : Nat, S a = none → Jd y cc nL rt d tc ts K (c0 + 1) (s0 + n) (pu S a (aQ 0 n (fun _ => none))) pc1 L (.ref a :: st)) : Jd y cc nL rt d tc ts K c0 s0 S pc L (.int (iI z) :: st) := by
  intro p l e R s m args below meth c D q A Q C hR H locs ls hP hS hl
  have C0 := C
  obtain ⟨hx, hb, hml, hown, hts, hrt, hlk, hini, hKK, hA, hdf, hdl, htc, hts2⟩ := C
  have hK := hKK.1
  subst hp
  subst hz
  obtain ⟨L1, f1, h1, h2, g1, g2⟩ := hP
  refine va_newq hx hb hown (hts _ hw) hKK.2.1 hK g1 g2 hS hA (N' := n) (by intro h9; have := (iI_lt (a := (n : Int)) (b := 0) (by omega) (by omega) (by omega) (by omega)).mp h9; omega) (by rw [iI_cl (by omega) (by omega)]; omega) (by omega) (Nat.le_trans hc1 htc) (Nat.le_trans hs1 hts2) hd (fun a cA H1 kk p1 p2 p3 => ?_)
  have hcA : cA = q.2.1 := by
    obtain ⟨-, -, -, -, -, e1⟩ := (kk.2 3 (cA, .object "BorrowedHours$Game") rfl).2
    obtain ⟨-, -, -, -, -, e2⟩ := (hK.2 1 (q.2.1, .object "BorrowedHours$Game") rfl).2
    exact Option.some.inj (e1.symm.trans e2)
  subst hcA
  obtain ⟨n1, n2⟩ := pH.new (e := aQ 0 n (fun _ => none)) h1 h2 p1 p2
  exact k a n1 p l e R s m args below meth c D q A Q C0 hR H1 locs ls n2 p3 hl
theorem J_newT {pc1 n ix : Nat} {z : Int} (hw : Cond.classLink y.cls ix "BorrowedHours$Times" ∈ wsU) (hd : decode cc pc = .ok (.anewarray ix, 3)) (hp : pc + 3 = pc1) (hz : z = n) (hn : n < 100000000) (hc1 : c0 + 1 ≤ tc) (hs1 : s0 + n ≤ ts) (k : ∀ a : Nat, S a = none → Jd y cc nL rt d tc ts K (c0 + 1) (s0 + n) (pu S a (aQ 1 n (fun _ => none))) pc1 L (.ref a :: st)) : Jd y cc nL rt d tc ts K c0 s0 S pc L (.int (iI z) :: st) := by
  intro p l e R s m args below meth c D q A Q C hR H locs ls hP hS hl
  have C0 := C
  obtain ⟨hx, hb, hml, hown, hts, hrt, hlk, hini, hKK, hA, hdf, hdl, htc, hts2⟩ := C
  have hK := hKK.1
  subst hp
  subst hz
  obtain ⟨L1, f1, h1, h2, g1, g2⟩ := hP
  refine va_newq hx hb hown (hts _ hw) hKK.2.2.1 hK g1 g2 hS hA (N' := n) (by intro h9; have := (iI_lt (a := (n : Int)) (b := 0) (by omega) (by omega) (by omega) (by omega)).mp h9; omega) (by rw [iI_cl (by omega) (by omega)]; omega) (by omega) (Nat.le_trans hc1 htc) (Nat.le_trans hs1 hts2) hd (fun a cA H1 kk p1 p2 p3 => ?_)
  have hcA : cA = q.2.2 := by
    obtain ⟨-, -, -, -, -, e1⟩ := (kk.2 3 (cA, .object "BorrowedHours$Times") rfl).2
    obtain ⟨-, -, -, -, -, e2⟩ := (hK.2 2 (q.2.2, .object "BorrowedHours$Times") rfl).2
    exact Option.some.inj (e1.symm.trans e2)
  subst hcA
  obtain ⟨n1, n2⟩ := pH.new (e := aQ 1 n (fun _ => none)) h1 h2 p1 p2
  exact k a n1 p l e R s m args below meth c D q A Q C0 hR H1 locs ls n2 p3 hl
theorem J_objInit {pc1 ix a : Nat} (hw : Cond.methodLink y.cls ix objectInit ∈ wsU) (hw2 : Cond.instanceMethod objectInit ∈ wsU) (hw3 : Cond.code objectInit ⟨#[0xb1]⟩ 1 none ∈ wsU) (hd : decode cc pc = .ok (.invokespecial ix, 3)) (hp : pc + 3 = pc1) (hdd : 1 ≤ d) (hrm : (st.map fun v => v.category).sum ≤ 8) (k : Jd y cc nL rt d tc ts K c0 s0 S pc1 L st) : Jd y cc nL rt d tc ts K c0 s0 S pc L (.ref a :: st) := by
  intro p l e R s m args below meth c D q A Q C hR H locs ls hP hS hl
  have C0 := C
  obtain ⟨hx, hb, hml, hown, hts, hrt, hlk, hini, hKK, hA, hdf, hdl, htc, hts2⟩ := C
  have hK := hKK.1
  subst hp
  exact W.objInit hx hb hown (hts _ hw) (hts _ hw2) (hts _ hw3) rfl (by rw [hml]; exact hl.1) rfl hd (Nat.le_trans hdd hdf) (by show 2 * 0 + _ + 12 ≤ _; omega) (k p l e R s m args below meth c D q A Q C0 hR H locs ls hP hS hl)
theorem J_callV {y1 : MethodName} {cc1 : ByteArray} {nL1 : Nat} {rt1 : Option FieldType} {d1 mc ms n : Nat} {As : List Value} {K1 : Option Value → pS → Prop} {pc1 ix b ci N : Nat} {C : String} {T9 : u_T} {fs : List Value} {stk : List Value} (hG : GoodIn wsU (wsV y.cls ix C y1 (.code y1 cc1 nL1 rt1 :: wsU))) (hy : y1.cls = C ∧ y1.cls ≠ "java/lang/invoke/MethodHandle" ∧ y1.cls ≠ "java/lang/invoke/VarHandle" ∧ (parseMethodDescriptor y1.desc).map (fun d => d.parameters.length) = some n) (hc : vwCl[ci]? = some (C, T9, N)) (hM : Ct y1 cc1 nL1 rt1 d1 mc ms (.ref b :: As) S K1) (hd : decode cc pc = .ok (.invokevirtual ix, 3)) (hp : pc + 3 = pc1) (ha : S b = some (oO ci fs)) (hst : stk = As.reverse ++ .ref b :: st) (hn : As.length = n) (hdd : d1 + 1 ≤ d) (hnl : nL1 ≤ 21) (hcc : c0 + mc ≤ tc) (hss : s0 + ms ≤ ts) (hrm : (st.map fun v => v.category).sum ≤ 8) (k : ∀ (r : Option Value) (S1 : pS), K1 r S1 → Jd y cc nL rt d tc ts K (c0 + mc) (s0 + ms) S1 pc1 L (r.toList ++ st)) : Jd y cc nL rt d tc ts K c0 s0 S pc L stk := by
  intro p l e R s m args below meth c D q A Q C hR H locs ls hP hS hl
  have C0 := C
  obtain ⟨hx, hb, hml, hown, hts, hrt, hlk, hini, hKK, hA, hdf, hdl, htc, hts2⟩ := C
  have hK := hKK.1
  obtain ⟨L1, f9, k1, g1, g2, g3, -⟩ := hP.at ha
  subst hp
  subst hst
  have hrun := va_runV (H := H) (locs := locs) (cells := c0) (slots := s0) (e := e) (meth := meth) (below := below) (g := F0 m pc ls (As.reverse ++ .ref b :: st)) (rest := st) (As := As) (b := b) ⟨hx, hb, hml, hown, hts⟩ (hM d1 (Nat.le_refl _) l D q H.size) (cwV (R := R) n hts hG rfl rfl rfl hy ⟨by show d1 + 1 ≤ _; omega, by show 8 + (nL1 + 11) + 40 * d1 ≤ _; omega⟩) ⟨fun a U g mk z => by obtain ⟨q0, q1, q2, q3⟩ := z; exact ⟨q0, q1, q2, KK.same (u := U) (U := U.calling g mk a) rfl q3⟩, va_recv hK g1 hc g3, fun U hU hW => ⟨rfl, by rw [hU], by rw [hU]; exact hP.weaken (fun _ _ _ _ => trivial), KK.warm hW hKK⟩⟩ rfl hn (hl.1) rfl (lv_room hrm) hd ⟨Nat.le_trans hcc htc, Nat.le_trans hss hts2⟩
  intro T hT X
  obtain ⟨v, st₀, t, T1, L9, e0, X1, hL9, e1, e2, ⟨⟨r, S1, hoc, hKr, hP1⟩, hF⟩, hgo⟩ := hrun T hT X
  cases hoc
  have hA1 : ∀ x : Nat, aS S H.size x → A x := fun x hx9 => hx9.elim (fun ⟨e9, he9⟩ => hP.inA he9) (fun h9 => hA x (Nat.le_trans hS.1 h9))
  rw [← e1] at hP1
  obtain ⟨f1, f2⟩ := hF
  rw [e0, ← e1] at f1 f2
  have hS1 : va_S A s.heap T1.heap (locs ++ L9) := ⟨Nat.le_trans hS.1 f1, fun x h1 h2 => (f2 x (Nat.lt_of_lt_of_le h1 hS.1) (fun z => h2 (hA1 x z))).trans (hS.2.1 x h1 h2), fun x hx9 => (List.mem_append.mp hx9).elim (hS.2.2 x) (fun z => hA1 _ (hL9 x z))⟩
  obtain ⟨t2, a1, b1⟩ := k v S1 hKr p l e R s m args below meth c D q A Q C0 hR T1.heap (locs ++ L9) ls (hP1.weaken (fun x e9 _ z => hA1 x z)) hS1 hl T1 rfl X1
  exact ⟨t2, hgo t2 a1, b1⟩
theorem J_callS {y1 : MethodName} {cc1 : ByteArray} {nL1 : Nat} {rt1 : Option FieldType} {d1 mc ms n : Nat} {As : List Value} {K1 : Option Value → pS → Prop} {pc1 ix : Nat} {stk : List Value} (hG : GoodIn wsU (wsS y.cls ix y1 (.code y1 cc1 nL1 rt1 :: wsU))) (hy : y1.cls = y.cls ∧ y1.cls ≠ "java/lang/invoke/MethodHandle" ∧ y1.cls ≠ "java/lang/invoke/VarHandle" ∧ (parseMethodDescriptor y1.desc).map (fun d => d.parameters.length) = some n) (hM : Ct y1 cc1 nL1 rt1 d1 mc ms As S K1) (hd : decode cc pc = .ok (.invokestatic ix, 3)) (hp : pc + 3 = pc1) (hst : stk = As.reverse ++ st) (hn : As.length = n) (hdd : d1 + 1 ≤ d) (hnl : nL1 ≤ 21) (hcc : c0 + mc ≤ tc) (hss : s0 + ms ≤ ts) (hrm : (st.map fun v => v.category).sum ≤ 8) (k : ∀ (r : Option Value) (S1 : pS), K1 r S1 → Jd y cc nL rt d tc ts K (c0 + mc) (s0 + ms) S1 pc1 L (r.toList ++ st)) : Jd y cc nL rt d tc ts K c0 s0 S pc L stk := by
  intro p l e R s m args below meth c D q A Q C hR H locs ls hP hS hl
  have C0 := C
  obtain ⟨hx, hb, hml, hown, hts, hrt, hlk, hini, hKK, hA, hdf, hdl, htc, hts2⟩ := C
  have hK := hKK.1
  subst hp
  subst hst
  have hrun := va_runS (H := H) (locs := locs) (cells := c0) (slots := s0) (e := e) (meth := meth) (below := below) (g := F0 m pc ls (As.reverse ++ st)) (rest := st) (As := As) ⟨hx, hb, hml, hown, hts⟩ (hM d1 (Nat.le_refl _) l D q H.size) (cwS (R := R) n hts hG rfl rfl rfl hy ⟨by show d1 + 1 ≤ _; omega, by show 8 + (nL1 + 11) + 40 * d1 ≤ _; omega⟩) ⟨fun a U g mk z => by obtain ⟨q0, q1, q2, q3⟩ := z; exact ⟨q0, q1, q2, KK.same (u := U) (U := U.calling g mk a) rfl q3⟩, fun U hU hW => ⟨rfl, by rw [hU], by rw [hU]; exact hP.weaken (fun _ _ _ _ => trivial), KK.warm hW hKK⟩⟩ rfl hn (hl.1) rfl (lv_room hrm) hd ⟨Nat.le_trans hcc htc, Nat.le_trans hss hts2⟩
  intro T hT X
  obtain ⟨v, st₀, t, T1, L9, e0, X1, hL9, e1, e2, ⟨⟨r, S1, hoc, hKr, hP1⟩, hF⟩, hgo⟩ := hrun T hT X
  cases hoc
  have hA1 : ∀ x : Nat, aS S H.size x → A x := fun x hx9 => hx9.elim (fun ⟨e9, he9⟩ => hP.inA he9) (fun h9 => hA x (Nat.le_trans hS.1 h9))
  rw [← e1] at hP1
  obtain ⟨f1, f2⟩ := hF
  rw [e0, ← e1] at f1 f2
  have hS1 : va_S A s.heap T1.heap (locs ++ L9) := ⟨Nat.le_trans hS.1 f1, fun x h1 h2 => (f2 x (Nat.lt_of_lt_of_le h1 hS.1) (fun z => h2 (hA1 x z))).trans (hS.2.1 x h1 h2), fun x hx9 => (List.mem_append.mp hx9).elim (hS.2.2 x) (fun z => hA1 _ (hL9 x z))⟩
  obtain ⟨t2, a1, b1⟩ := k v S1 hKr p l e R s m args below meth c D q A Q C0 hR T1.heap (locs ++ L9) ls (hP1.weaken (fun x e9 _ z => hA1 x z)) hS1 hl T1 rfl X1
  exact ⟨t2, hgo t2 a1, b1⟩
theorem J_callI {y1 : MethodName} {cc1 : ByteArray} {nL1 : Nat} {d1 mc ms n : Nat} {As : List Value} {K1 : Option Value → pS → Prop} {pc1 ix b : Nat} {stk : List Value} (hG : GoodIn wsU (.code y1 cc1 nL1 none :: wsU)) (hy : y1.name = "<init>" ∧ y1.cls ≠ "java/lang/invoke/MethodHandle" ∧ y1.cls ≠ "java/lang/invoke/VarHandle" ∧ (parseMethodDescriptor y1.desc).map (fun d => d.parameters.length) = some n) (hw1 : Cond.initialized y1.cls ∈ wsU) (hw2 : Cond.methodLink y.cls ix y1 ∈ wsU) (hw3 : Cond.instanceMethod y1 ∈ wsU) (hM : Ct y1 cc1 nL1 none d1 mc ms (.ref b :: As) S K1) (hd : decode cc pc = .ok (.invokespecial ix, 3)) (hp : pc + 3 = pc1) (hst : stk = As.reverse ++ .ref b :: st) (hn : As.length = n) (hdd : d1 + 1 ≤ d) (hnl : nL1 ≤ 21) (hcc : c0 + mc ≤ tc) (hss : s0 + ms ≤ ts) (hrm : (st.map fun v => v.category).sum ≤ 8) (k : ∀ (r : Option Value) (S1 : pS), K1 r S1 → Jd y cc nL rt d tc ts K (c0 + mc) (s0 + ms) S1 pc1 L (r.toList ++ st)) : Jd y cc nL rt d tc ts K c0 s0 S pc L stk := by
  intro p l e R s m args below meth c D q A Q C hR H locs ls hP hS hl
  have C0 := C
  obtain ⟨hx, hb, hml, hown, hts, hrt, hlk, hini, hKK, hA, hdf, hdl, htc, hts2⟩ := C
  have hK := hKK.1
  subst hp
  subst hst
  have hrun := va_runI (H := H) (locs := locs) (cells := c0) (slots := s0) (e := e) (meth := meth) (below := below) (g := F0 m pc ls (As.reverse ++ .ref b :: st)) (rest := st) (As := As) (b := b) ⟨hx, hb, hml, hown, hts⟩ (hM d1 (Nat.le_refl _) l D q H.size) (cwI (R := R) n hts hG rfl rfl rfl (hts _ hw1) (hts _ hw2) (hts _ hw3) hy.1 hy.2 ⟨by show d1 + 1 ≤ _; omega, by show 8 + (nL1 + 11) + 40 * d1 ≤ _; omega⟩) ⟨fun a U g mk z => by obtain ⟨q0, q1, q2, q3⟩ := z; exact ⟨q0, q1, q2, KK.same (u := U) (U := U.calling g mk a) rfl q3⟩, fun U hU hW => ⟨rfl, by rw [hU], by rw [hU]; exact hP.weaken (fun _ _ _ _ => trivial), KK.warm hW hKK⟩⟩ rfl hn (hl.1) rfl (lv_room hrm) hd ⟨Nat.le_trans hcc htc, Nat.le_trans hss hts2⟩
  intro T hT X
  obtain ⟨v, st₀, t, T1, L9, e0, X1, hL9, e1, e2, ⟨⟨r, S1, hoc, hKr, hP1⟩, hF⟩, hgo⟩ := hrun T hT X
  cases hoc
  have hA1 : ∀ x : Nat, aS S H.size x → A x := fun x hx9 => hx9.elim (fun ⟨e9, he9⟩ => hP.inA he9) (fun h9 => hA x (Nat.le_trans hS.1 h9))
  rw [← e1] at hP1
  obtain ⟨f1, f2⟩ := hF
  rw [e0, ← e1] at f1 f2
  have hS1 : va_S A s.heap T1.heap (locs ++ L9) := ⟨Nat.le_trans hS.1 f1, fun x h1 h2 => (f2 x (Nat.lt_of_lt_of_le h1 hS.1) (fun z => h2 (hA1 x z))).trans (hS.2.1 x h1 h2), fun x hx9 => (List.mem_append.mp hx9).elim (hS.2.2 x) (fun z => hA1 _ (hL9 x z))⟩
  obtain ⟨t2, a1, b1⟩ := k v S1 hKr p l e R s m args below meth c D q A Q C0 hR T1.heap (locs ++ L9) ls (hP1.weaken (fun x e9 _ z => hA1 x z)) hS1 hl T1 rfl X1
  exact ⟨t2, hgo t2 a1, b1⟩
theorem J_callIN {y1 : MethodName} {cc1 : ByteArray} {nL1 : Nat} {d1 mc ms n : Nat} {As : List Value} {K1 : Option Value → pS → Prop} {pc1 ix b : Nat} {stk : List Value} (hG : GoodIn wsU (.code y1 cc1 nL1 none :: wsU)) (hy : y1.name = "<init>" ∧ y1.cls ≠ "java/lang/invoke/MethodHandle" ∧ y1.cls ≠ "java/lang/invoke/VarHandle" ∧ (parseMethodDescriptor y1.desc).map (fun d => d.parameters.length) = some n) (hw1 : Cond.initialized y1.cls ∈ wsU) {host : String} (hw2 : (y.cls, ix, y1, host) ∈ nestL) (hw3 : Cond.instanceMethod y1 ∈ wsU) (hM : Ct y1 cc1 nL1 none d1 mc ms (.ref b :: As) S K1) (hd : decode cc pc = .ok (.invokespecial ix, 3)) (hp : pc + 3 = pc1) (hst : stk = As.reverse ++ .ref b :: st) (hn : As.length = n) (hdd : d1 + 1 ≤ d) (hnl : nL1 ≤ 21) (hcc : c0 + mc ≤ tc) (hss : s0 + ms ≤ ts) (hrm : (st.map fun v => v.category).sum ≤ 8) (k : ∀ (r : Option Value) (S1 : pS), K1 r S1 → Jd y cc nL rt d tc ts K (c0 + mc) (s0 + ms) S1 pc1 L (r.toList ++ st)) : Jd y cc nL rt d tc ts K c0 s0 S pc L stk := by
  intro p l e R s m args below meth c D q A Q C hR H locs ls hP hS hl
  have C0 := C
  obtain ⟨hx, hb, hml, hown, hts, hrt, hlk, hini, hKK, hA, hdf, hdl, htc, hts2⟩ := C
  have hK := hKK.1
  subst hp
  subst hst
  have hrun := va_runIN (H := H) (locs := locs) (cells := c0) (slots := s0) (e := e) (meth := meth) (below := below) (g := F0 m pc ls (As.reverse ++ .ref b :: st)) (rest := st) (As := As) (b := b) ⟨hx, hb, hml, hown, hts⟩ (hM d1 (Nat.le_refl _) l D q H.size) ⟨va_cnB (R := R) n hts hG rfl rfl rfl (hKK.2.2.2 _ hw2) (hts _ hw1) hy.2 ⟨by show d1 + 1 ≤ _; omega, by show 8 + (nL1 + 11) + 40 * d1 ≤ _; omega⟩, hy.1, hts _ hw3⟩ ⟨fun a U g mk z => by obtain ⟨q0, q1, q2, q3⟩ := z; exact ⟨q0, q1, q2, KK.same (u := U) (U := U.calling g mk a) rfl q3⟩, fun U hU hW => ⟨rfl, by rw [hU], by rw [hU]; exact hP.weaken (fun _ _ _ _ => trivial), KK.warm hW hKK⟩⟩ rfl hn (hl.1) rfl (lv_room hrm) hd ⟨Nat.le_trans hcc htc, Nat.le_trans hss hts2⟩
  intro T hT X
  obtain ⟨v, st₀, t, T1, L9, e0, X1, hL9, e1, e2, ⟨⟨r, S1, hoc, hKr, hP1⟩, hF⟩, hgo⟩ := hrun T hT X
  cases hoc
  have hA1 : ∀ x : Nat, aS S H.size x → A x := fun x hx9 => hx9.elim (fun ⟨e9, he9⟩ => hP.inA he9) (fun h9 => hA x (Nat.le_trans hS.1 h9))
  rw [← e1] at hP1
  obtain ⟨f1, f2⟩ := hF
  rw [e0, ← e1] at f1 f2
  have hS1 : va_S A s.heap T1.heap (locs ++ L9) := ⟨Nat.le_trans hS.1 f1, fun x h1 h2 => (f2 x (Nat.lt_of_lt_of_le h1 hS.1) (fun z => h2 (hA1 x z))).trans (hS.2.1 x h1 h2), fun x hx9 => (List.mem_append.mp hx9).elim (hS.2.2 x) (fun z => hA1 _ (hL9 x z))⟩
  obtain ⟨t2, a1, b1⟩ := k v S1 hKr p l e R s m args below meth c D q A Q C0 hR T1.heap (locs ++ L9) ls (hP1.weaken (fun x e9 _ z => hA1 x z)) hS1 hl T1 rfl X1
  exact ⟨t2, hgo t2 a1, b1⟩
theorem J_widen {c1 s1 : Nat} (hc1 : c0 ≤ c1) (hs1 : s0 ≤ s1) (k : Jd y cc nL rt d tc ts K c1 s1 S pc L st) : Jd y cc nL rt d tc ts K c0 s0 S pc L st := by
  intro p l e R s m args below meth c D q A Q C hR H locs ls hP hS hl
  have C0 := C
  obtain ⟨hx, hb, hml, hown, hts, hrt, hlk, hini, hKK, hA, hdf, hdl, htc, hts2⟩ := C
  have hK := hKK.1
  exact W.widen hc1 hs1 (k p l e R s m args below meth c D q A Q C0 hR H locs ls hP hS hl)
theorem J_vret (hrr : rt = none) (hd : decode cc pc = .ok (.return_, 1)) (hc1 : c0 ≤ tc) (hs1 : s0 ≤ ts) (hk : K none S)  : Jd y cc nL rt d tc ts K c0 s0 S pc L [] := by
  intro p l e R s m args below meth c D q A Q C hR H locs ls hP hS hl
  have C0 := C
  obtain ⟨hx, hb, hml, hown, hts, hrt, hlk, hini, hKK, hA, hdf, hdl, htc, hts2⟩ := C
  have hK := hKK.1
  exact W.widen hc1 hs1 (hR none S hk H locs ls pc _ (Or.inl ⟨rfl, hrr, rfl⟩) hd hP hS)
theorem J_iret {v : Int32} {ty : FieldType} (hrr : rt = some ty) (hnv : narrow ty (.int v) = .int v) (hd : decode cc pc = .ok (.ireturn, 1)) (hc1 : c0 ≤ tc) (hs1 : s0 ≤ ts) (hk : K (some (.int v)) S)  : Jd y cc nL rt d tc ts K c0 s0 S pc L [.int v] := by
  intro p l e R s m args below meth c D q A Q C hR H locs ls hP hS hl
  have C0 := C
  obtain ⟨hx, hb, hml, hown, hts, hrt, hlk, hini, hKK, hA, hdf, hdl, htc, hts2⟩ := C
  have hK := hKK.1
  exact W.widen hc1 hs1 (hR _ S hk H locs ls pc _ (Or.inr (Or.inl ⟨rfl, ty, v, hrr, rfl, hnv⟩)) hd hP hS)
theorem J_aret {a : Nat} {n : String} (hrr : rt = some (.object n)) (hd : decode cc pc = .ok (.areturn, 1)) (hc1 : c0 ≤ tc) (hs1 : s0 ≤ ts) (hk : K (some (.ref a)) S)  : Jd y cc nL rt d tc ts K c0 s0 S pc L [.ref a] := by
  intro p l e R s m args below meth c D q A Q C hR H locs ls hP hS hl
  have C0 := C
  obtain ⟨hx, hb, hml, hown, hts, hrt, hlk, hini, hKK, hA, hdf, hdl, htc, hts2⟩ := C
  have hK := hKK.1
  exact W.widen hc1 hs1 (hR _ S hk H locs ls pc _ (Or.inr (Or.inr ⟨rfl, n, a, hrr, rfl⟩)) hd hP hS)
end JR
end
section
theorem mU {w : Cond} (h : w ∈ lw_tbl) (hg : goodWord w = true) : w ∈ wsU := List.mem_filter.mpr ⟨h, hg⟩
theorem t1m {w : Cond} (h : w ∈ tables_1_1) : w ∈ lw_tbl := List.mem_append_right _ (List.mem_append_left _ h)
theorem t2m {w : Cond} (h : w ∈ tables_1_2) : w ∈ lw_tbl := List.mem_append_right _ (List.mem_append_right _ (List.mem_append_left _ h))
theorem t3m {w : Cond} (h : w ∈ tables_1_3) : w ∈ lw_tbl := List.mem_append_right _ (List.mem_append_right _ (List.mem_append_right _ (List.mem_append_left _ h)))
theorem t4m {w : Cond} (h : w ∈ tables_1_4) : w ∈ lw_tbl := List.mem_append_right _ (List.mem_append_right _ (List.mem_append_right _ (List.mem_append_right _ h)))
theorem gU {w : Cond} (h : w ∈ wsU) : w ∈ wsU ∧ ((w.onTables && w.keeps) = true ∨ ∃ ty, w = .arrayClass ty) := ⟨h, good_of_word (List.mem_filter.mp h).2⟩
theorem good_C {w : Cond} (h : w ∈ wsU) : GoodIn wsU (w :: wsU) := fun x hx => (List.mem_cons.mp hx).elim (fun e => by rw [e]; exact gU h) gU
theorem good_V {own C : String} {ix : Nat} {y : MethodName} {w : Cond} (h1 : Cond.methodLink own ix y ∈ wsU) (h2 : Cond.instanceMethod y ∈ wsU) (h3 : Cond.selects C y y ∈ wsU) (h4 : Cond.initialized C ∈ wsU) (h5 : w ∈ wsU) : GoodIn wsU (wsV own ix C y (w :: wsU)) := by
  intro x hx
  unfold wsV at hx
  rcases List.mem_append.mp hx with h | h
  · simp only [List.mem_cons, List.not_mem_nil, or_false] at h
    rcases h with rfl | rfl | rfl | rfl
    · exact gU h1
    · exact gU h2
    · exact gU h3
    · exact gU h4
  · exact good_C h5 x h
theorem good_S {own : String} {ix : Nat} {y : MethodName} {w : Cond} (h1 : Cond.methodLink own ix y ∈ wsU) (h2 : Cond.static y ∈ wsU) (h4 : Cond.initialized own ∈ wsU) (h5 : w ∈ wsU) : GoodIn wsU (wsS own ix y (w :: wsU)) := by
  intro x hx
  unfold wsS at hx
  rcases List.mem_append.mp hx with h | h
  · simp only [List.mem_cons, List.not_mem_nil, or_false] at h
    rcases h with rfl | rfl | rfl
    · exact gU h1
    · exact gU h2
    · exact gU h4
  · exact good_C h5 x h
theorem u_all {C : String} {T : u_T} {N : Nat} (h : ∀ k, k < N → u_lay C T k ∈ wsU) : ∀ w ∈ u_ws C T N, w ∈ wsU := by
  intro w hw
  unfold u_ws at hw
  obtain ⟨k, hk, rfl⟩ := List.mem_map.mp hw
  exact h k (List.mem_range.mp hk)
theorem ln_L : Cond.initialized RL ∈ wsU := mU (t1m (List.mem_of_getElem? (i := 0) rfl)) rfl
theorem ln_X9 : Cond.initialized RX9 ∈ wsU := mU (t1m (List.mem_of_getElem? (i := 1) rfl)) rfl
theorem ln_X2 : Cond.initialized RX2 ∈ wsU := mU (t1m (List.mem_of_getElem? (i := 2) rfl)) rfl
theorem ln_X6 : Cond.initialized RX6 ∈ wsU := mU (t1m (List.mem_of_getElem? (i := 3) rfl)) rfl
theorem ln_X3 : Cond.initialized RX3 ∈ wsU := mU (t1m (List.mem_of_getElem? (i := 4) rfl)) rfl
theorem ln_X7 : Cond.initialized RX7 ∈ wsU := mU (t1m (List.mem_of_getElem? (i := 5) rfl)) rfl
theorem ln_X5 : Cond.initialized RX5 ∈ wsU := mU (t1m (List.mem_of_getElem? (i := 6) rfl)) rfl
theorem ln_X4 : Cond.initialized RX4 ∈ wsU := mU (t1m (List.mem_of_getElem? (i := 7) rfl)) rfl
theorem ln_X0 : Cond.initialized RX0 ∈ wsU := mU (t1m (List.mem_of_getElem? (i := 8) rfl)) rfl
theorem ln_X1 : Cond.initialized RX1 ∈ wsU := mU (t1m (List.mem_of_getElem? (i := 9) rfl)) rfl
theorem ln_X10 : Cond.initialized RX10 ∈ wsU := mU (t1m (List.mem_of_getElem? (i := 10) rfl)) rfl
theorem ln_Math : Cond.initialized "java/lang/Math" ∈ wsU := mU (t1m (List.mem_of_getElem? (i := 11) rfl)) rfl
theorem ln_X8 : Cond.initialized RX8 ∈ wsU := mU (t1m (List.mem_of_getElem? (i := 12) rfl)) rfl
theorem ll_L_7 : Cond.classLink RL 7 RX9 ∈ wsU := mU (t1m (List.mem_of_getElem? (i := 13) rfl)) rfl
theorem lt_X9 : Cond.instantiable RX9 8 ∈ wsU := mU (t1m (List.mem_of_getElem? (i := 14) rfl)) rfl
theorem lm_L_9 : Cond.methodLink RL 9 yX9_init ∈ wsU := mU (t1m (List.mem_of_getElem? (i := 15) rfl)) rfl
theorem li_X9_init : Cond.instanceMethod yX9_init ∈ wsU := mU (t1m (List.mem_of_getElem? (i := 16) rfl)) rfl
theorem lc_X9_init : Cond.code yX9_init cX9_init 1 (Option.none : Option FieldType) ∈ wsU := mU (t1m (List.mem_of_getElem? (i := 17) rfl)) rfl
theorem lm_X9_3 : Cond.methodLink RX9 3 objectInit ∈ wsU := mU (t1m (List.mem_of_getElem? (i := 18) rfl)) rfl
theorem li_init_Object : Cond.instanceMethod objectInit ∈ wsU := mU (t1m (List.mem_of_getElem? (i := 19) rfl)) rfl
theorem lc_init_Object : Cond.code objectInit object_method_1_code 1 (Option.none : Option FieldType) ∈ wsU := mU (t1m (List.mem_of_getElem? (i := 20) rfl)) rfl
theorem ll_X9_9 : Cond.classLink RX9 9 RX2 ∈ wsU := mU (t1m (List.mem_of_getElem? (i := 21) rfl)) rfl
theorem lt_X2 : Cond.instantiable RX2 10 ∈ wsU := mU (t1m (List.mem_of_getElem? (i := 22) rfl)) rfl
theorem li_X2_init : Cond.instanceMethod yX2_init ∈ wsU := mU (t1m (List.mem_of_getElem? (i := 24) rfl)) rfl
theorem lc_X2_init : Cond.code yX2_init cX2_init 1 (Option.none : Option FieldType) ∈ wsU := mU (t1m (List.mem_of_getElem? (i := 25) rfl)) rfl
theorem lm_X2_3 : Cond.methodLink RX2 3 objectInit ∈ wsU := mU (t1m (List.mem_of_getElem? (i := 26) rfl)) rfl
theorem ll_X2_15 : Cond.classLink RX2 15 RX6 ∈ wsU := mU (t1m (List.mem_of_getElem? (i := 27) rfl)) rfl
theorem lt_X6 : Cond.instantiable RX6 5 ∈ wsU := mU (t1m (List.mem_of_getElem? (i := 28) rfl)) rfl
theorem li_X6_init : Cond.instanceMethod yX6_init ∈ wsU := mU (t1m (List.mem_of_getElem? (i := 30) rfl)) rfl
theorem lc_X6_init : Cond.code yX6_init cX6_init 1 (Option.none : Option FieldType) ∈ wsU := mU (t1m (List.mem_of_getElem? (i := 31) rfl)) rfl
theorem lm_X6_3 : Cond.methodLink RX6 3 objectInit ∈ wsU := mU (t1m (List.mem_of_getElem? (i := 32) rfl)) rfl
theorem lf_X6_9 : Cond.fieldLink RX6 9 "BorrowedHours$Side" "began" "I" ∈ wsU := mU (t1m (List.mem_of_getElem? (i := 33) rfl)) rfl
theorem lf_X9_99 : Cond.fieldLink RX9 99 "BorrowedHours$Side" "began" "I" ∈ wsU := mU (t1m (List.mem_of_getElem? (i := 34) rfl)) rfl
theorem lf_X6_15 : Cond.fieldLink RX6 15 "BorrowedHours$Side" "hours" "I" ∈ wsU := mU (t1m (List.mem_of_getElem? (i := 35) rfl)) rfl
theorem lf_X9_148 : Cond.fieldLink RX9 148 "BorrowedHours$Side" "hours" "I" ∈ wsU := mU (t1m (List.mem_of_getElem? (i := 36) rfl)) rfl
theorem lf_X2_61 : Cond.fieldLink RX2 61 "BorrowedHours$Side" "hours" "I" ∈ wsU := mU (t1m (List.mem_of_getElem? (i := 37) rfl)) rfl
theorem lf_X6_18 : Cond.fieldLink RX6 18 "BorrowedHours$Side" "paid" "I" ∈ wsU := mU (t1m (List.mem_of_getElem? (i := 38) rfl)) rfl
theorem lf_X9_154 : Cond.fieldLink RX9 154 "BorrowedHours$Side" "paid" "I" ∈ wsU := mU (t1m (List.mem_of_getElem? (i := 39) rfl)) rfl
theorem lf_X2_76 : Cond.fieldLink RX2 76 "BorrowedHours$Side" "paid" "I" ∈ wsU := mU (t1m (List.mem_of_getElem? (i := 40) rfl)) rfl
theorem lf_X6_21 : Cond.fieldLink RX6 21 "BorrowedHours$Side" "took" "I" ∈ wsU := mU (t1m (List.mem_of_getElem? (i := 41) rfl)) rfl
theorem lf_X9_157 : Cond.fieldLink RX9 157 "BorrowedHours$Side" "took" "I" ∈ wsU := mU (t1m (List.mem_of_getElem? (i := 42) rfl)) rfl
theorem lf_X2_79 : Cond.fieldLink RX2 79 "BorrowedHours$Side" "took" "I" ∈ wsU := mU (t1m (List.mem_of_getElem? (i := 43) rfl)) rfl
theorem lf_X6_24 : Cond.fieldLink RX6 24 "BorrowedHours$Side" "won" "I" ∈ wsU := mU (t1m (List.mem_of_getElem? (i := 44) rfl)) rfl
theorem lf_X9_160 : Cond.fieldLink RX9 160 "BorrowedHours$Side" "won" "I" ∈ wsU := mU (t1m (List.mem_of_getElem? (i := 45) rfl)) rfl
theorem lf_X2_85 : Cond.fieldLink RX2 85 "BorrowedHours$Side" "won" "I" ∈ wsU := mU (t1m (List.mem_of_getElem? (i := 46) rfl)) rfl
theorem ly_X6_began : Cond.lays "BorrowedHours$Side" "BorrowedHours$Side" "began" "I" ∈ wsU := mU (t1m (List.mem_of_getElem? (i := 47) rfl)) rfl
theorem ly_X6_hours : Cond.lays "BorrowedHours$Side" "BorrowedHours$Side" "hours" "I" ∈ wsU := mU (t1m (List.mem_of_getElem? (i := 49) rfl)) rfl
theorem ly_X6_paid : Cond.lays "BorrowedHours$Side" "BorrowedHours$Side" "paid" "I" ∈ wsU := mU (t1m (List.mem_of_getElem? (i := 51) rfl)) rfl
theorem ly_X6_took : Cond.lays "BorrowedHours$Side" "BorrowedHours$Side" "took" "I" ∈ wsU := mU (t1m (List.mem_of_getElem? (i := 53) rfl)) rfl
theorem ly_X6_won : Cond.lays "BorrowedHours$Side" "BorrowedHours$Side" "won" "I" ∈ wsU := mU (t1m (List.mem_of_getElem? (i := 55) rfl)) rfl
theorem lf_X2_9 : Cond.fieldLink RX2 9 "BorrowedHours$Game" "end" "I" ∈ wsU := mU (t1m (List.mem_of_getElem? (i := 58) rfl)) rfl
theorem lf_X4_32 : Cond.fieldLink RX4 32 "BorrowedHours$Game" "end" "I" ∈ wsU := mU (t1m (List.mem_of_getElem? (i := 59) rfl)) rfl
theorem lf_X1_38 : Cond.fieldLink RX1 38 "BorrowedHours$Game" "end" "I" ∈ wsU := mU (t1m (List.mem_of_getElem? (i := 60) rfl)) rfl
theorem lf_X2_25 : Cond.fieldLink RX2 25 "BorrowedHours$Game" "loan" "I" ∈ wsU := mU (t1m (List.mem_of_getElem? (i := 61) rfl)) rfl
theorem lf_X9_190 : Cond.fieldLink RX9 190 "BorrowedHours$Game" "loan" "I" ∈ wsU := mU (t1m (List.mem_of_getElem? (i := 62) rfl)) rfl
theorem lf_X4_17 : Cond.fieldLink RX4 17 "BorrowedHours$Game" "pays" "I" ∈ wsU := mU (t1m (List.mem_of_getElem? (i := 63) rfl)) rfl
theorem lf_X2_28 : Cond.fieldLink RX2 28 "BorrowedHours$Game" "pays" "I" ∈ wsU := mU (t1m (List.mem_of_getElem? (i := 64) rfl)) rfl
theorem lf_X2_31 : Cond.fieldLink RX2 31 "BorrowedHours$Game" "tie" "I" ∈ wsU := mU (t1m (List.mem_of_getElem? (i := 65) rfl)) rfl
theorem lf_X4_35 : Cond.fieldLink RX4 35 "BorrowedHours$Game" "tie" "I" ∈ wsU := mU (t1m (List.mem_of_getElem? (i := 66) rfl)) rfl
theorem lf_X1_69 : Cond.fieldLink RX1 69 "BorrowedHours$Game" "tie" "I" ∈ wsU := mU (t1m (List.mem_of_getElem? (i := 67) rfl)) rfl
theorem lf_X2_34 : Cond.fieldLink RX2 34 "BorrowedHours$Game" "hand" "I" ∈ wsU := mU (t1m (List.mem_of_getElem? (i := 68) rfl)) rfl
theorem lf_X9_166 : Cond.fieldLink RX9 166 "BorrowedHours$Game" "hand" "I" ∈ wsU := mU (t1m (List.mem_of_getElem? (i := 69) rfl)) rfl
theorem lf_X0_15 : Cond.fieldLink RX0 15 "BorrowedHours$Game" "first" "I" ∈ wsU := mU (t1m (List.mem_of_getElem? (i := 70) rfl)) rfl
theorem lf_X2_37 : Cond.fieldLink RX2 37 "BorrowedHours$Game" "first" "I" ∈ wsU := mU (t1m (List.mem_of_getElem? (i := 71) rfl)) rfl
theorem lf_X1_30 : Cond.fieldLink RX1 30 "BorrowedHours$Game" "first" "I" ∈ wsU := mU (t1m (List.mem_of_getElem? (i := 72) rfl)) rfl
theorem lf_X9_169 : Cond.fieldLink RX9 169 "BorrowedHours$Game" "first" "I" ∈ wsU := mU (t1m (List.mem_of_getElem? (i := 73) rfl)) rfl
theorem lf_X2_40 : Cond.fieldLink RX2 40 "BorrowedHours$Game" "rounds" "I" ∈ wsU := mU (t1m (List.mem_of_getElem? (i := 74) rfl)) rfl
theorem lf_X9_91 : Cond.fieldLink RX9 91 "BorrowedHours$Game" "rounds" "I" ∈ wsU := mU (t1m (List.mem_of_getElem? (i := 75) rfl)) rfl
theorem lf_X2_43 : Cond.fieldLink RX2 43 "BorrowedHours$Game" "clock" "I" ∈ wsU := mU (t1m (List.mem_of_getElem? (i := 76) rfl)) rfl
theorem lf_X9_175 : Cond.fieldLink RX9 175 "BorrowedHours$Game" "clock" "I" ∈ wsU := mU (t1m (List.mem_of_getElem? (i := 77) rfl)) rfl
theorem lf_X2_18 : Cond.fieldLink RX2 18 "BorrowedHours$Game" "zero" "LBorrowedHours$Side;" ∈ wsU := mU (t1m (List.mem_of_getElem? (i := 78) rfl)) rfl
theorem lf_X9_95 : Cond.fieldLink RX9 95 "BorrowedHours$Game" "zero" "LBorrowedHours$Side;" ∈ wsU := mU (t1m (List.mem_of_getElem? (i := 79) rfl)) rfl
theorem lf_X2_22 : Cond.fieldLink RX2 22 "BorrowedHours$Game" "one" "LBorrowedHours$Side;" ∈ wsU := mU (t1m (List.mem_of_getElem? (i := 80) rfl)) rfl
theorem lf_X9_104 : Cond.fieldLink RX9 104 "BorrowedHours$Game" "one" "LBorrowedHours$Side;" ∈ wsU := mU (t1m (List.mem_of_getElem? (i := 81) rfl)) rfl
theorem ly_X2_end : Cond.lays "BorrowedHours$Game" "BorrowedHours$Game" "end" "I" ∈ wsU := mU (t1m (List.mem_of_getElem? (i := 82) rfl)) rfl
theorem ly_X2_loan : Cond.lays "BorrowedHours$Game" "BorrowedHours$Game" "loan" "I" ∈ wsU := mU (t1m (List.mem_of_getElem? (i := 84) rfl)) rfl
theorem ly_X2_pays : Cond.lays "BorrowedHours$Game" "BorrowedHours$Game" "pays" "I" ∈ wsU := mU (t1m (List.mem_of_getElem? (i := 86) rfl)) rfl
theorem ly_X2_tie : Cond.lays "BorrowedHours$Game" "BorrowedHours$Game" "tie" "I" ∈ wsU := mU (t1m (List.mem_of_getElem? (i := 88) rfl)) rfl
theorem ly_X2_hand : Cond.lays "BorrowedHours$Game" "BorrowedHours$Game" "hand" "I" ∈ wsU := mU (t1m (List.mem_of_getElem? (i := 90) rfl)) rfl
theorem ly_X2_first : Cond.lays "BorrowedHours$Game" "BorrowedHours$Game" "first" "I" ∈ wsU := mU (t1m (List.mem_of_getElem? (i := 92) rfl)) rfl
theorem ly_X2_rounds : Cond.lays "BorrowedHours$Game" "BorrowedHours$Game" "rounds" "I" ∈ wsU := mU (t1m (List.mem_of_getElem? (i := 94) rfl)) rfl
theorem ly_X2_clock : Cond.lays "BorrowedHours$Game" "BorrowedHours$Game" "clock" "I" ∈ wsU := mU (t1m (List.mem_of_getElem? (i := 96) rfl)) rfl
theorem ly_X2_zero : Cond.laysFinal "BorrowedHours$Game" "BorrowedHours$Game" "zero" "LBorrowedHours$Side;" ∈ wsU := mU (t1m (List.mem_of_getElem? (i := 98) rfl)) rfl
theorem ly_X2_one : Cond.laysFinal "BorrowedHours$Game" "BorrowedHours$Game" "one" "LBorrowedHours$Side;" ∈ wsU := mU (t1m (List.mem_of_getElem? (i := 100) rfl)) rfl
theorem ll_X9_16 : Cond.classLink RX9 16 RX3 ∈ wsU := mU (t1m (List.mem_of_getElem? (i := 103) rfl)) rfl
theorem lt_X3 : Cond.instantiable RX3 2 ∈ wsU := mU (t1m (List.mem_of_getElem? (i := 104) rfl)) rfl
theorem li_X3_init : Cond.instanceMethod yX3_init ∈ wsU := mU (t1m (List.mem_of_getElem? (i := 106) rfl)) rfl
theorem lc_X3_init : Cond.code yX3_init cX3_init 1 (Option.none : Option FieldType) ∈ wsU := mU (t1m (List.mem_of_getElem? (i := 107) rfl)) rfl
theorem lm_X3_3 : Cond.methodLink RX3 3 objectInit ∈ wsU := mU (t1m (List.mem_of_getElem? (i := 108) rfl)) rfl
theorem ll_X3_9 : Cond.classLink RX3 9 RX2 ∈ wsU := mU (t1m (List.mem_of_getElem? (i := 109) rfl)) rfl
theorem lf_X3_11 : Cond.fieldLink RX3 11 "BorrowedHours$History" "states" "[LBorrowedHours$Game;" ∈ wsU := mU (t1m (List.mem_of_getElem? (i := 111) rfl)) rfl
theorem lf_X3_17 : Cond.fieldLink RX3 17 "BorrowedHours$History" "size" "I" ∈ wsU := mU (t1m (List.mem_of_getElem? (i := 112) rfl)) rfl
theorem lf_X9_181 : Cond.fieldLink RX9 181 "BorrowedHours$History" "size" "I" ∈ wsU := mU (t1m (List.mem_of_getElem? (i := 113) rfl)) rfl
theorem ly_X3_states : Cond.laysFinal "BorrowedHours$History" "BorrowedHours$History" "states" "[LBorrowedHours$Game;" ∈ wsU := mU (t1m (List.mem_of_getElem? (i := 114) rfl)) rfl
theorem ly_X3_size : Cond.lays "BorrowedHours$History" "BorrowedHours$History" "size" "I" ∈ wsU := mU (t1m (List.mem_of_getElem? (i := 116) rfl)) rfl
theorem ll_X9_23 : Cond.classLink RX9 23 RX7 ∈ wsU := mU (t1m (List.mem_of_getElem? (i := 119) rfl)) rfl
theorem lt_X7 : Cond.instantiable RX7 2 ∈ wsU := mU (t1m (List.mem_of_getElem? (i := 120) rfl)) rfl
theorem li_X7_init : Cond.instanceMethod yX7_init ∈ wsU := mU (t1m (List.mem_of_getElem? (i := 122) rfl)) rfl
theorem lc_X7_init : Cond.code yX7_init cX7_init 1 (Option.none : Option FieldType) ∈ wsU := mU (t1m (List.mem_of_getElem? (i := 123) rfl)) rfl
theorem lm_X7_1 : Cond.methodLink RX7 1 objectInit ∈ wsU := mU (t1m (List.mem_of_getElem? (i := 124) rfl)) rfl
theorem ll_X7_7 : Cond.classLink RX7 7 RX2 ∈ wsU := mU (t1m (List.mem_of_getElem? (i := 125) rfl)) rfl
theorem lf_X7_10 : Cond.fieldLink RX7 10 "BorrowedHours$Slot" "saved" "LBorrowedHours$Game;" ∈ wsU := mU (t1m (List.mem_of_getElem? (i := 127) rfl)) rfl
theorem lf_X9_211 : Cond.fieldLink RX9 211 "BorrowedHours$Slot" "saved" "LBorrowedHours$Game;" ∈ wsU := mU (t1m (List.mem_of_getElem? (i := 128) rfl)) rfl
theorem lf_X9_217 : Cond.fieldLink RX9 217 "BorrowedHours$Slot" "filled" "Z" ∈ wsU := mU (t1m (List.mem_of_getElem? (i := 129) rfl)) rfl
theorem ly_X7_saved : Cond.laysFinal "BorrowedHours$Slot" "BorrowedHours$Slot" "saved" "LBorrowedHours$Game;" ∈ wsU := mU (t1m (List.mem_of_getElem? (i := 130) rfl)) rfl
theorem ly_X7_filled : Cond.lays "BorrowedHours$Slot" "BorrowedHours$Slot" "filled" "Z" ∈ wsU := mU (t1m (List.mem_of_getElem? (i := 132) rfl)) rfl
theorem ll_X9_33 : Cond.classLink RX9 33 RX5 ∈ wsU := mU (t1m (List.mem_of_getElem? (i := 135) rfl)) rfl
theorem lt_X5 : Cond.instantiable RX5 2 ∈ wsU := mU (t1m (List.mem_of_getElem? (i := 136) rfl)) rfl
theorem li_X5_init : Cond.instanceMethod yX5_init ∈ wsU := mU (t1m (List.mem_of_getElem? (i := 138) rfl)) rfl
theorem lc_X5_init : Cond.code yX5_init cX5_init 1 (Option.none : Option FieldType) ∈ wsU := mU (t1m (List.mem_of_getElem? (i := 139) rfl)) rfl
theorem lm_X5_3 : Cond.methodLink RX5 3 objectInit ∈ wsU := mU (t1m (List.mem_of_getElem? (i := 140) rfl)) rfl
theorem lf_X5_9 : Cond.fieldLink RX5 9 "BorrowedHours$Pad" "signs" "[I" ∈ wsU := mU (t1m (List.mem_of_getElem? (i := 141) rfl)) rfl
theorem lf_X5_17 : Cond.fieldLink RX5 17 "BorrowedHours$Pad" "length" "I" ∈ wsU := mU (t1m (List.mem_of_getElem? (i := 142) rfl)) rfl
theorem lf_X9_178 : Cond.fieldLink RX9 178 "BorrowedHours$Pad" "length" "I" ∈ wsU := mU (t1m (List.mem_of_getElem? (i := 143) rfl)) rfl
theorem ly_X5_signs : Cond.laysFinal "BorrowedHours$Pad" "BorrowedHours$Pad" "signs" "[I" ∈ wsU := mU (t1m (List.mem_of_getElem? (i := 144) rfl)) rfl
theorem ly_X5_length : Cond.lays "BorrowedHours$Pad" "BorrowedHours$Pad" "length" "I" ∈ wsU := mU (t1m (List.mem_of_getElem? (i := 146) rfl)) rfl
theorem la_int : Cond.arrayClass .int ∈ wsU := mU (t1m (List.mem_of_getElem? (i := 149) rfl)) rfl
theorem ll_X9_40 : Cond.classLink RX9 40 RX4 ∈ wsU := mU (t1m (List.mem_of_getElem? (i := 150) rfl)) rfl
theorem lt_X4 : Cond.instantiable RX4 1 ∈ wsU := mU (t1m (List.mem_of_getElem? (i := 151) rfl)) rfl
theorem li_X4_init : Cond.instanceMethod yX4_init ∈ wsU := mU (t1m (List.mem_of_getElem? (i := 153) rfl)) rfl
theorem lc_X4_init : Cond.code yX4_init cX4_init 1 (Option.none : Option FieldType) ∈ wsU := mU (t1m (List.mem_of_getElem? (i := 154) rfl)) rfl
theorem lm_X4_5 : Cond.methodLink RX4 5 objectInit ∈ wsU := mU (t1m (List.mem_of_getElem? (i := 155) rfl)) rfl
theorem ll_X4_11 : Cond.classLink RX4 11 RX8 ∈ wsU := mU (t1m (List.mem_of_getElem? (i := 156) rfl)) rfl
theorem lf_X4_13 : Cond.fieldLink RX4 13 "BorrowedHours$Memory" "tables" "[LBorrowedHours$Times;" ∈ wsU := mU (t1m (List.mem_of_getElem? (i := 158) rfl)) rfl
theorem ly_X4_tables : Cond.laysFinal "BorrowedHours$Memory" "BorrowedHours$Memory" "tables" "[LBorrowedHours$Times;" ∈ wsU := mU (t1m (List.mem_of_getElem? (i := 159) rfl)) rfl
theorem ll_X9_47 : Cond.classLink RX9 47 RX0 ∈ wsU := mU (t1m (List.mem_of_getElem? (i := 162) rfl)) rfl
theorem lt_X0 : Cond.instantiable RX0 1 ∈ wsU := mU (t1m (List.mem_of_getElem? (i := 163) rfl)) rfl
theorem lm_X9_49 : Cond.methodLink RX9 49 yX0_init ∈ wsU := mU (t1m (List.mem_of_getElem? (i := 164) rfl)) rfl
theorem li_X0_init : Cond.instanceMethod yX0_init ∈ wsU := mU (t1m (List.mem_of_getElem? (i := 165) rfl)) rfl
theorem lc_X0_init : Cond.code yX0_init cX0_init 2 (Option.none : Option FieldType) ∈ wsU := mU (t1m (List.mem_of_getElem? (i := 166) rfl)) rfl
theorem lm_X0_3 : Cond.methodLink RX0 3 objectInit ∈ wsU := mU (t1m (List.mem_of_getElem? (i := 167) rfl)) rfl
theorem lf_X0_9 : Cond.fieldLink RX0 9 "BorrowedHours$Advice" "game" "LBorrowedHours$Game;" ∈ wsU := mU (t1m (List.mem_of_getElem? (i := 168) rfl)) rfl
theorem ly_X0_game : Cond.laysFinal "BorrowedHours$Advice" "BorrowedHours$Advice" "game" "LBorrowedHours$Game;" ∈ wsU := mU (t1m (List.mem_of_getElem? (i := 169) rfl)) rfl
theorem ll_X9_56 : Cond.classLink RX9 56 RX1 ∈ wsU := mU (t1m (List.mem_of_getElem? (i := 172) rfl)) rfl
theorem lt_X1 : Cond.instantiable RX1 1 ∈ wsU := mU (t1m (List.mem_of_getElem? (i := 173) rfl)) rfl
theorem lm_X9_58 : Cond.methodLink RX9 58 yX1_init ∈ wsU := mU (t1m (List.mem_of_getElem? (i := 174) rfl)) rfl
theorem li_X1_init : Cond.instanceMethod yX1_init ∈ wsU := mU (t1m (List.mem_of_getElem? (i := 175) rfl)) rfl
theorem lc_X1_init : Cond.code yX1_init cX1_init 2 (Option.none : Option FieldType) ∈ wsU := mU (t1m (List.mem_of_getElem? (i := 176) rfl)) rfl
theorem lm_X1_3 : Cond.methodLink RX1 3 objectInit ∈ wsU := mU (t1m (List.mem_of_getElem? (i := 177) rfl)) rfl
theorem lf_X1_9 : Cond.fieldLink RX1 9 "BorrowedHours$Foresight" "game" "LBorrowedHours$Game;" ∈ wsU := mU (t1m (List.mem_of_getElem? (i := 178) rfl)) rfl
theorem ly_X1_game : Cond.laysFinal "BorrowedHours$Foresight" "BorrowedHours$Foresight" "game" "LBorrowedHours$Game;" ∈ wsU := mU (t1m (List.mem_of_getElem? (i := 179) rfl)) rfl
theorem lf_X9_12 : Cond.fieldLink RX9 12 "BorrowedHours" "game" "LBorrowedHours$Game;" ∈ wsU := mU (t1m (List.mem_of_getElem? (i := 182) rfl)) rfl
theorem lf_X9_19 : Cond.fieldLink RX9 19 "BorrowedHours" "history" "LBorrowedHours$History;" ∈ wsU := mU (t1m (List.mem_of_getElem? (i := 183) rfl)) rfl
theorem lf_X9_26 : Cond.fieldLink RX9 26 "BorrowedHours" "slotZero" "LBorrowedHours$Slot;" ∈ wsU := mU (t1m (List.mem_of_getElem? (i := 184) rfl)) rfl
theorem lf_X9_30 : Cond.fieldLink RX9 30 "BorrowedHours" "slotOne" "LBorrowedHours$Slot;" ∈ wsU := mU (t1m (List.mem_of_getElem? (i := 185) rfl)) rfl
theorem lf_X9_36 : Cond.fieldLink RX9 36 "BorrowedHours" "pad" "LBorrowedHours$Pad;" ∈ wsU := mU (t1m (List.mem_of_getElem? (i := 186) rfl)) rfl
theorem lf_X9_43 : Cond.fieldLink RX9 43 "BorrowedHours" "memory" "LBorrowedHours$Memory;" ∈ wsU := mU (t1m (List.mem_of_getElem? (i := 187) rfl)) rfl
theorem lf_X9_52 : Cond.fieldLink RX9 52 "BorrowedHours" "advice" "LBorrowedHours$Advice;" ∈ wsU := mU (t1m (List.mem_of_getElem? (i := 188) rfl)) rfl
theorem lf_X9_59 : Cond.fieldLink RX9 59 "BorrowedHours" "foresight" "LBorrowedHours$Foresight;" ∈ wsU := mU (t1m (List.mem_of_getElem? (i := 189) rfl)) rfl
theorem ly_X9_game : Cond.laysFinal "BorrowedHours" "BorrowedHours" "game" "LBorrowedHours$Game;" ∈ wsU := mU (t1m (List.mem_of_getElem? (i := 190) rfl)) rfl
theorem ly_X9_history : Cond.laysFinal "BorrowedHours" "BorrowedHours" "history" "LBorrowedHours$History;" ∈ wsU := mU (t1m (List.mem_of_getElem? (i := 192) rfl)) rfl
theorem ly_X9_slotZero : Cond.laysFinal "BorrowedHours" "BorrowedHours" "slotZero" "LBorrowedHours$Slot;" ∈ wsU := mU (t1m (List.mem_of_getElem? (i := 194) rfl)) rfl
theorem ly_X9_slotOne : Cond.laysFinal "BorrowedHours" "BorrowedHours" "slotOne" "LBorrowedHours$Slot;" ∈ wsU := mU (t1m (List.mem_of_getElem? (i := 196) rfl)) rfl
theorem ly_X9_pad : Cond.laysFinal "BorrowedHours" "BorrowedHours" "pad" "LBorrowedHours$Pad;" ∈ wsU := mU (t1m (List.mem_of_getElem? (i := 198) rfl)) rfl
theorem ly_X9_memory : Cond.laysFinal "BorrowedHours" "BorrowedHours" "memory" "LBorrowedHours$Memory;" ∈ wsU := mU (t1m (List.mem_of_getElem? (i := 200) rfl)) rfl
theorem ly_X9_advice : Cond.laysFinal "BorrowedHours" "BorrowedHours" "advice" "LBorrowedHours$Advice;" ∈ wsU := mU (t1m (List.mem_of_getElem? (i := 202) rfl)) rfl
theorem ly_X9_foresight : Cond.laysFinal "BorrowedHours" "BorrowedHours" "foresight" "LBorrowedHours$Foresight;" ∈ wsU := mU (t1m (List.mem_of_getElem? (i := 204) rfl)) rfl
theorem lm_L_13 : Cond.methodLink RL 13 yX9_set ∈ wsU := mU (t1m (List.mem_of_getElem? (i := 207) rfl)) rfl
theorem li_X9_set : Cond.instanceMethod yX9_set ∈ wsU := mU (t1m (List.mem_of_getElem? (i := 208) rfl)) rfl
theorem lv_X9_set : Cond.selects RX9 yX9_set yX9_set ∈ wsU := mU (t1m (List.mem_of_getElem? (i := 209) rfl)) rfl
theorem lc_X9_set : Cond.code yX9_set cX9_set 4 (Option.some FieldType.int) ∈ wsU := mU (t1m (List.mem_of_getElem? (i := 210) rfl)) rfl
theorem lm_X9_63 : Cond.methodLink RX9 63 yX9_isSetting ∈ wsU := mU (t1m (List.mem_of_getElem? (i := 211) rfl)) rfl
theorem ls_X9_isSetting : Cond.static yX9_isSetting ∈ wsU := mU (t1m (List.mem_of_getElem? (i := 212) rfl)) rfl
theorem lc_X9_isSetting : Cond.code yX9_isSetting cX9_isSetting 1 (Option.some FieldType.boolean) ∈ wsU := mU (t1m (List.mem_of_getElem? (i := 213) rfl)) rfl
theorem lm_X9_87 : Cond.methodLink RX9 87 yX9_isBetween ∈ wsU := mU (t1m (List.mem_of_getElem? (i := 214) rfl)) rfl
theorem ls_X9_isBetween : Cond.static yX9_isBetween ∈ wsU := mU (t1m (List.mem_of_getElem? (i := 215) rfl)) rfl
theorem lc_X9_isBetween : Cond.code yX9_isBetween cX9_isBetween 3 (Option.some FieldType.boolean) ∈ wsU := mU (t1m (List.mem_of_getElem? (i := 216) rfl)) rfl
theorem lm_X9_67 : Cond.methodLink RX9 67 yX9_leastSetting ∈ wsU := mU (t1m (List.mem_of_getElem? (i := 217) rfl)) rfl
theorem ls_X9_leastSetting : Cond.static yX9_leastSetting ∈ wsU := mU (t1m (List.mem_of_getElem? (i := 218) rfl)) rfl
theorem lc_X9_leastSetting : Cond.code yX9_leastSetting cX9_leastSetting 1 (Option.some FieldType.int) ∈ wsU := mU (t1m (List.mem_of_getElem? (i := 219) rfl)) rfl
theorem lm_X9_71 : Cond.methodLink RX9 71 yX9_mostSetting ∈ wsU := mU (t1m (List.mem_of_getElem? (i := 220) rfl)) rfl
theorem ls_X9_mostSetting : Cond.static yX9_mostSetting ∈ wsU := mU (t1m (List.mem_of_getElem? (i := 221) rfl)) rfl
theorem lc_X9_mostSetting : Cond.code yX9_mostSetting cX9_mostSetting 1 (Option.some FieldType.int) ∈ wsU := mU (t1m (List.mem_of_getElem? (i := 222) rfl)) rfl
theorem lm_X9_74 : Cond.methodLink RX9 74 yX2_settingOf ∈ wsU := mU (t1m (List.mem_of_getElem? (i := 223) rfl)) rfl
theorem li_X2_settingOf : Cond.instanceMethod yX2_settingOf ∈ wsU := mU (t1m (List.mem_of_getElem? (i := 224) rfl)) rfl
theorem lv_X2_settingOf : Cond.selects RX2 yX2_settingOf yX2_settingOf ∈ wsU := mU (t1m (List.mem_of_getElem? (i := 225) rfl)) rfl
theorem lc_X2_settingOf : Cond.code yX2_settingOf cX2_settingOf 2 (Option.some FieldType.int) ∈ wsU := mU (t1m (List.mem_of_getElem? (i := 226) rfl)) rfl
theorem lm_X9_77 : Cond.methodLink RX9 77 yX3_keepState ∈ wsU := mU (t1m (List.mem_of_getElem? (i := 227) rfl)) rfl
theorem li_X3_keepState : Cond.instanceMethod yX3_keepState ∈ wsU := mU (t1m (List.mem_of_getElem? (i := 228) rfl)) rfl
theorem lv_X3_keepState : Cond.selects RX3 yX3_keepState yX3_keepState ∈ wsU := mU (t1m (List.mem_of_getElem? (i := 229) rfl)) rfl
theorem lc_X3_keepState : Cond.code yX3_keepState cX3_keepState 2 (Option.none : Option FieldType) ∈ wsU := mU (t1m (List.mem_of_getElem? (i := 230) rfl)) rfl
theorem lm_X3_21 : Cond.methodLink RX3 21 yX3_dropOldest ∈ wsU := mU (t1m (List.mem_of_getElem? (i := 231) rfl)) rfl
theorem li_X3_dropOldest : Cond.instanceMethod yX3_dropOldest ∈ wsU := mU (t1m (List.mem_of_getElem? (i := 233) rfl)) rfl
theorem lc_X3_dropOldest : Cond.code yX3_dropOldest cX3_dropOldest 3 (Option.none : Option FieldType) ∈ wsU := mU (t1m (List.mem_of_getElem? (i := 234) rfl)) rfl
theorem lm_X3_25 : Cond.methodLink RX3 25 yX2_copyFrom ∈ wsU := mU (t1m (List.mem_of_getElem? (i := 236) rfl)) rfl
theorem li_X2_copyFrom : Cond.instanceMethod yX2_copyFrom ∈ wsU := mU (t1m (List.mem_of_getElem? (i := 237) rfl)) rfl
theorem lv_X2_copyFrom : Cond.selects RX2 yX2_copyFrom yX2_copyFrom ∈ wsU := mU (t1m (List.mem_of_getElem? (i := 238) rfl)) rfl
theorem lc_X2_copyFrom : Cond.code yX2_copyFrom cX2_copyFrom 2 (Option.none : Option FieldType) ∈ wsU := mU (t1m (List.mem_of_getElem? (i := 239) rfl)) rfl
theorem lm_X2_46 : Cond.methodLink RX2 46 yX6_copyFrom ∈ wsU := mU (t2m (List.mem_of_getElem? (i := 0) rfl)) rfl
theorem li_X6_copyFrom : Cond.instanceMethod yX6_copyFrom ∈ wsU := mU (t2m (List.mem_of_getElem? (i := 1) rfl)) rfl
theorem lv_X6_copyFrom : Cond.selects RX6 yX6_copyFrom yX6_copyFrom ∈ wsU := mU (t2m (List.mem_of_getElem? (i := 2) rfl)) rfl
theorem lc_X6_copyFrom : Cond.code yX6_copyFrom cX6_copyFrom 2 (Option.none : Option FieldType) ∈ wsU := mU (t2m (List.mem_of_getElem? (i := 3) rfl)) rfl
theorem lm_X9_80 : Cond.methodLink RX9 80 yX2_changeSetting ∈ wsU := mU (t2m (List.mem_of_getElem? (i := 4) rfl)) rfl
theorem li_X2_changeSetting : Cond.instanceMethod yX2_changeSetting ∈ wsU := mU (t2m (List.mem_of_getElem? (i := 5) rfl)) rfl
theorem lv_X2_changeSetting : Cond.selects RX2 yX2_changeSetting yX2_changeSetting ∈ wsU := mU (t2m (List.mem_of_getElem? (i := 6) rfl)) rfl
theorem lc_X2_changeSetting : Cond.code yX2_changeSetting cX2_changeSetting 3 (Option.none : Option FieldType) ∈ wsU := mU (t2m (List.mem_of_getElem? (i := 7) rfl)) rfl
theorem lm_X9_84 : Cond.methodLink RX9 84 yX2_startAnew ∈ wsU := mU (t2m (List.mem_of_getElem? (i := 8) rfl)) rfl
theorem li_X2_startAnew : Cond.instanceMethod yX2_startAnew ∈ wsU := mU (t2m (List.mem_of_getElem? (i := 9) rfl)) rfl
theorem lv_X2_startAnew : Cond.selects RX2 yX2_startAnew yX2_startAnew ∈ wsU := mU (t2m (List.mem_of_getElem? (i := 10) rfl)) rfl
theorem lc_X2_startAnew : Cond.code yX2_startAnew cX2_startAnew 1 (Option.none : Option FieldType) ∈ wsU := mU (t2m (List.mem_of_getElem? (i := 11) rfl)) rfl
theorem lm_X2_50 : Cond.methodLink RX2 50 yX6_startAnew ∈ wsU := mU (t2m (List.mem_of_getElem? (i := 12) rfl)) rfl
theorem li_X6_startAnew : Cond.instanceMethod yX6_startAnew ∈ wsU := mU (t2m (List.mem_of_getElem? (i := 13) rfl)) rfl
theorem lv_X6_startAnew : Cond.selects RX6 yX6_startAnew yX6_startAnew ∈ wsU := mU (t2m (List.mem_of_getElem? (i := 14) rfl)) rfl
theorem lc_X6_startAnew : Cond.code yX6_startAnew cX6_startAnew 1 (Option.none : Option FieldType) ∈ wsU := mU (t2m (List.mem_of_getElem? (i := 15) rfl)) rfl
theorem lm_L_18 : Cond.methodLink RL 18 yX9_begin ∈ wsU := mU (t2m (List.mem_of_getElem? (i := 16) rfl)) rfl
theorem li_X9_begin : Cond.instanceMethod yX9_begin ∈ wsU := mU (t2m (List.mem_of_getElem? (i := 17) rfl)) rfl
theorem lv_X9_begin : Cond.selects RX9 yX9_begin yX9_begin ∈ wsU := mU (t2m (List.mem_of_getElem? (i := 18) rfl)) rfl
theorem lc_X9_begin : Cond.code yX9_begin cX9_begin 4 (Option.some FieldType.int) ∈ wsU := mU (t2m (List.mem_of_getElem? (i := 19) rfl)) rfl
theorem lm_L_22 : Cond.methodLink RL 22 yX9_round ∈ wsU := mU (t2m (List.mem_of_getElem? (i := 20) rfl)) rfl
theorem li_X9_round : Cond.instanceMethod yX9_round ∈ wsU := mU (t2m (List.mem_of_getElem? (i := 21) rfl)) rfl
theorem lv_X9_round : Cond.selects RX9 yX9_round yX9_round ∈ wsU := mU (t2m (List.mem_of_getElem? (i := 22) rfl)) rfl
theorem lc_X9_round : Cond.code yX9_round cX9_round 3 (Option.some FieldType.int) ∈ wsU := mU (t2m (List.mem_of_getElem? (i := 23) rfl)) rfl
theorem lm_X9_107 : Cond.methodLink RX9 107 yX2_allows ∈ wsU := mU (t2m (List.mem_of_getElem? (i := 24) rfl)) rfl
theorem li_X2_allows : Cond.instanceMethod yX2_allows ∈ wsU := mU (t2m (List.mem_of_getElem? (i := 25) rfl)) rfl
theorem lv_X2_allows : Cond.selects RX2 yX2_allows yX2_allows ∈ wsU := mU (t2m (List.mem_of_getElem? (i := 26) rfl)) rfl
theorem lc_X2_allows : Cond.code yX2_allows cX2_allows 3 (Option.some FieldType.boolean) ∈ wsU := mU (t2m (List.mem_of_getElem? (i := 27) rfl)) rfl
theorem lm_X2_64 : Cond.methodLink RX2 64 yX2_isOver ∈ wsU := mU (t2m (List.mem_of_getElem? (i := 28) rfl)) rfl
theorem li_X2_isOver : Cond.instanceMethod yX2_isOver ∈ wsU := mU (t2m (List.mem_of_getElem? (i := 29) rfl)) rfl
theorem lv_X2_isOver : Cond.selects RX2 yX2_isOver yX2_isOver ∈ wsU := mU (t2m (List.mem_of_getElem? (i := 30) rfl)) rfl
theorem lc_X2_isOver : Cond.code yX2_isOver cX2_isOver 1 (Option.some FieldType.boolean) ∈ wsU := mU (t2m (List.mem_of_getElem? (i := 31) rfl)) rfl
theorem lm_X2_53 : Cond.methodLink RX2 53 yX2_winner ∈ wsU := mU (t2m (List.mem_of_getElem? (i := 32) rfl)) rfl
theorem li_X2_winner : Cond.instanceMethod yX2_winner ∈ wsU := mU (t2m (List.mem_of_getElem? (i := 33) rfl)) rfl
theorem lv_X2_winner : Cond.selects RX2 yX2_winner yX2_winner ∈ wsU := mU (t2m (List.mem_of_getElem? (i := 34) rfl)) rfl
theorem lc_X2_winner : Cond.code yX2_winner cX2_winner 1 (Option.some FieldType.int) ∈ wsU := mU (t2m (List.mem_of_getElem? (i := 35) rfl)) rfl
theorem lm_X2_68 : Cond.methodLink RX2 68 yX2_mostOf ∈ wsU := mU (t2m (List.mem_of_getElem? (i := 36) rfl)) rfl
theorem li_X2_mostOf : Cond.instanceMethod yX2_mostOf ∈ wsU := mU (t2m (List.mem_of_getElem? (i := 37) rfl)) rfl
theorem lv_X2_mostOf : Cond.selects RX2 yX2_mostOf yX2_mostOf ∈ wsU := mU (t2m (List.mem_of_getElem? (i := 38) rfl)) rfl
theorem lc_X2_mostOf : Cond.code yX2_mostOf cX2_mostOf 2 (Option.some FieldType.int) ∈ wsU := mU (t2m (List.mem_of_getElem? (i := 39) rfl)) rfl
theorem lm_X2_57 : Cond.methodLink RX2 57 yX2_sideOf ∈ wsU := mU (t2m (List.mem_of_getElem? (i := 40) rfl)) rfl
theorem li_X2_sideOf : Cond.instanceMethod yX2_sideOf ∈ wsU := mU (t2m (List.mem_of_getElem? (i := 41) rfl)) rfl
theorem lv_X2_sideOf : Cond.selects RX2 yX2_sideOf yX2_sideOf ∈ wsU := mU (t2m (List.mem_of_getElem? (i := 42) rfl)) rfl
theorem lc_X2_sideOf : Cond.code yX2_sideOf cX2_sideOf 2 (Option.some (FieldType.object "BorrowedHours$Side")) ∈ wsU := mU (t2m (List.mem_of_getElem? (i := 43) rfl)) rfl
theorem lm_X9_111 : Cond.methodLink RX9 111 yX2_playRound ∈ wsU := mU (t2m (List.mem_of_getElem? (i := 44) rfl)) rfl
theorem li_X2_playRound : Cond.instanceMethod yX2_playRound ∈ wsU := mU (t2m (List.mem_of_getElem? (i := 45) rfl)) rfl
theorem lv_X2_playRound : Cond.selects RX2 yX2_playRound yX2_playRound ∈ wsU := mU (t2m (List.mem_of_getElem? (i := 46) rfl)) rfl
theorem lc_X2_playRound : Cond.code yX2_playRound cX2_playRound 7 (Option.some FieldType.int) ∈ wsU := mU (t2m (List.mem_of_getElem? (i := 47) rfl)) rfl
theorem lm_X2_72 : Cond.methodLink RX2 72 yX2_takerOf ∈ wsU := mU (t2m (List.mem_of_getElem? (i := 48) rfl)) rfl
theorem li_X2_takerOf : Cond.instanceMethod yX2_takerOf ∈ wsU := mU (t2m (List.mem_of_getElem? (i := 49) rfl)) rfl
theorem lv_X2_takerOf : Cond.selects RX2 yX2_takerOf yX2_takerOf ∈ wsU := mU (t2m (List.mem_of_getElem? (i := 50) rfl)) rfl
theorem lc_X2_takerOf : Cond.code yX2_takerOf cX2_takerOf 4 (Option.some FieldType.int) ∈ wsU := mU (t2m (List.mem_of_getElem? (i := 51) rfl)) rfl
theorem lm_X2_82 : Cond.methodLink RX2 82 yX2_gainOf ∈ wsU := mU (t2m (List.mem_of_getElem? (i := 52) rfl)) rfl
theorem li_X2_gainOf : Cond.instanceMethod yX2_gainOf ∈ wsU := mU (t2m (List.mem_of_getElem? (i := 53) rfl)) rfl
theorem lv_X2_gainOf : Cond.selects RX2 yX2_gainOf yX2_gainOf ∈ wsU := mU (t2m (List.mem_of_getElem? (i := 54) rfl)) rfl
theorem lc_X2_gainOf : Cond.code yX2_gainOf cX2_gainOf 2 (Option.some FieldType.int) ∈ wsU := mU (t2m (List.mem_of_getElem? (i := 55) rfl)) rfl
theorem lm_L_26 : Cond.methodLink RL 26 yX9_play ∈ wsU := mU (t2m (List.mem_of_getElem? (i := 56) rfl)) rfl
theorem li_X9_play : Cond.instanceMethod yX9_play ∈ wsU := mU (t2m (List.mem_of_getElem? (i := 57) rfl)) rfl
theorem lv_X9_play : Cond.selects RX9 yX9_play yX9_play ∈ wsU := mU (t2m (List.mem_of_getElem? (i := 58) rfl)) rfl
theorem lc_X9_play : Cond.code yX9_play cX9_play 4 (Option.some FieldType.int) ∈ wsU := mU (t2m (List.mem_of_getElem? (i := 59) rfl)) rfl
theorem lm_X9_115 : Cond.methodLink RX9 115 yX2_isOver ∈ wsU := mU (t2m (List.mem_of_getElem? (i := 60) rfl)) rfl
theorem lm_X9_119 : Cond.methodLink RX9 119 yX9_timesNow ∈ wsU := mU (t2m (List.mem_of_getElem? (i := 61) rfl)) rfl
theorem li_X9_timesNow : Cond.instanceMethod yX9_timesNow ∈ wsU := mU (t2m (List.mem_of_getElem? (i := 63) rfl)) rfl
theorem lc_X9_timesNow : Cond.code yX9_timesNow cX9_timesNow 1 (Option.some (FieldType.object "BorrowedHours$Times")) ∈ wsU := mU (t2m (List.mem_of_getElem? (i := 64) rfl)) rfl
theorem lm_X9_151 : Cond.methodLink RX9 151 yX2_mostOf ∈ wsU := mU (t2m (List.mem_of_getElem? (i := 65) rfl)) rfl
theorem lm_X9_221 : Cond.methodLink RX9 221 yX4_tableFor ∈ wsU := mU (t2m (List.mem_of_getElem? (i := 66) rfl)) rfl
theorem li_X4_tableFor : Cond.instanceMethod yX4_tableFor ∈ wsU := mU (t2m (List.mem_of_getElem? (i := 67) rfl)) rfl
theorem lv_X4_tableFor : Cond.selects RX4 yX4_tableFor yX4_tableFor ∈ wsU := mU (t2m (List.mem_of_getElem? (i := 68) rfl)) rfl
theorem lc_X4_tableFor : Cond.code yX4_tableFor cX4_tableFor 10 (Option.some (FieldType.object "BorrowedHours$Times")) ∈ wsU := mU (t2m (List.mem_of_getElem? (i := 69) rfl)) rfl
theorem lm_X4_23 : Cond.methodLink RX4 23 ⟨"java/lang/Math", "min", "(II)I"⟩ ∈ wsU := mU (t2m (List.mem_of_getElem? (i := 70) rfl)) rfl
theorem ls_min_Math : Cond.static ⟨"java/lang/Math", "min", "(II)I"⟩ ∈ wsU := mU (t2m (List.mem_of_getElem? (i := 71) rfl)) rfl
theorem lc_min_Math : Cond.code ⟨"java/lang/Math", "min", "(II)I"⟩ prog_13_method_69_code 2 (Option.some FieldType.int) ∈ wsU := mU (t2m (List.mem_of_getElem? (i := 72) rfl)) rfl
theorem lm_X4_29 : Cond.methodLink RX4 29 ⟨"java/lang/Math", "max", "(II)I"⟩ ∈ wsU := mU (t2m (List.mem_of_getElem? (i := 73) rfl)) rfl
theorem ls_max_Math : Cond.static ⟨"java/lang/Math", "max", "(II)I"⟩ ∈ wsU := mU (t2m (List.mem_of_getElem? (i := 74) rfl)) rfl
theorem lc_max_Math : Cond.code ⟨"java/lang/Math", "max", "(II)I"⟩ prog_13_method_65_code 2 (Option.some FieldType.int) ∈ wsU := mU (t2m (List.mem_of_getElem? (i := 75) rfl)) rfl
theorem lt_X8 : Cond.instantiable RX8 7 ∈ wsU := mU (t2m (List.mem_of_getElem? (i := 76) rfl)) rfl
theorem lm_X4_38 : Cond.methodLink RX4 38 yX8_init ∈ wsU := mU (t2m (List.mem_of_getElem? (i := 77) rfl)) rfl
theorem li_X8_init : Cond.instanceMethod yX8_init ∈ wsU := mU (t2m (List.mem_of_getElem? (i := 78) rfl)) rfl
theorem lc_X8_init : Cond.code yX8_init cX8_init 10 (Option.none : Option FieldType) ∈ wsU := mU (t2m (List.mem_of_getElem? (i := 79) rfl)) rfl
theorem lm_X8_3 : Cond.methodLink RX8 3 objectInit ∈ wsU := mU (t2m (List.mem_of_getElem? (i := 80) rfl)) rfl
theorem lm_X8_25 : Cond.methodLink RX8 25 ⟨"java/lang/Math", "max", "(II)I"⟩ ∈ wsU := mU (t2m (List.mem_of_getElem? (i := 81) rfl)) rfl
theorem lf_X8_9 : Cond.fieldLink RX8 9 "BorrowedHours$Times" "end" "I" ∈ wsU := mU (t2m (List.mem_of_getElem? (i := 82) rfl)) rfl
theorem lf_X8_15 : Cond.fieldLink RX8 15 "BorrowedHours$Times" "tie" "I" ∈ wsU := mU (t2m (List.mem_of_getElem? (i := 83) rfl)) rfl
theorem lf_X8_18 : Cond.fieldLink RX8 18 "BorrowedHours$Times" "sumStays" "Z" ∈ wsU := mU (t2m (List.mem_of_getElem? (i := 84) rfl)) rfl
theorem lf_X8_22 : Cond.fieldLink RX8 22 "BorrowedHours$Times" "top" "I" ∈ wsU := mU (t2m (List.mem_of_getElem? (i := 85) rfl)) rfl
theorem lf_X8_31 : Cond.fieldLink RX8 31 "BorrowedHours$Times" "owns" "[I" ∈ wsU := mU (t2m (List.mem_of_getElem? (i := 86) rfl)) rfl
theorem lf_X8_35 : Cond.fieldLink RX8 35 "BorrowedHours$Times" "foes" "[I" ∈ wsU := mU (t2m (List.mem_of_getElem? (i := 87) rfl)) rfl
theorem lf_X8_38 : Cond.fieldLink RX8 38 "BorrowedHours$Times" "times" "[I" ∈ wsU := mU (t2m (List.mem_of_getElem? (i := 88) rfl)) rfl
theorem ly_X8_end : Cond.laysFinal "BorrowedHours$Times" "BorrowedHours$Times" "end" "I" ∈ wsU := mU (t2m (List.mem_of_getElem? (i := 89) rfl)) rfl
theorem ly_X8_tie : Cond.laysFinal "BorrowedHours$Times" "BorrowedHours$Times" "tie" "I" ∈ wsU := mU (t2m (List.mem_of_getElem? (i := 91) rfl)) rfl
theorem ly_X8_sumStays : Cond.laysFinal "BorrowedHours$Times" "BorrowedHours$Times" "sumStays" "Z" ∈ wsU := mU (t2m (List.mem_of_getElem? (i := 93) rfl)) rfl
theorem ly_X8_top : Cond.laysFinal "BorrowedHours$Times" "BorrowedHours$Times" "top" "I" ∈ wsU := mU (t2m (List.mem_of_getElem? (i := 95) rfl)) rfl
theorem ly_X8_owns : Cond.laysFinal "BorrowedHours$Times" "BorrowedHours$Times" "owns" "[I" ∈ wsU := mU (t2m (List.mem_of_getElem? (i := 97) rfl)) rfl
theorem ly_X8_foes : Cond.laysFinal "BorrowedHours$Times" "BorrowedHours$Times" "foes" "[I" ∈ wsU := mU (t2m (List.mem_of_getElem? (i := 99) rfl)) rfl
theorem ly_X8_times : Cond.laysFinal "BorrowedHours$Times" "BorrowedHours$Times" "times" "[I" ∈ wsU := mU (t2m (List.mem_of_getElem? (i := 101) rfl)) rfl
theorem lm_X4_41 : Cond.methodLink RX4 41 yX8_learnAll ∈ wsU := mU (t2m (List.mem_of_getElem? (i := 104) rfl)) rfl
theorem li_X8_learnAll : Cond.instanceMethod yX8_learnAll ∈ wsU := mU (t2m (List.mem_of_getElem? (i := 105) rfl)) rfl
theorem lv_X8_learnAll : Cond.selects RX8 yX8_learnAll yX8_learnAll ∈ wsU := mU (t2m (List.mem_of_getElem? (i := 106) rfl)) rfl
theorem lc_X8_learnAll : Cond.code yX8_learnAll cX8_learnAll 3 (Option.none : Option FieldType) ∈ wsU := mU (t2m (List.mem_of_getElem? (i := 107) rfl)) rfl
theorem lm_X8_41 : Cond.methodLink RX8 41 yX8_learnRounds ∈ wsU := mU (t2m (List.mem_of_getElem? (i := 108) rfl)) rfl
theorem li_X8_learnRounds : Cond.instanceMethod yX8_learnRounds ∈ wsU := mU (t2m (List.mem_of_getElem? (i := 110) rfl)) rfl
theorem lc_X8_learnRounds : Cond.code yX8_learnRounds cX8_learnRounds 7 (Option.some FieldType.boolean) ∈ wsU := mU (t2m (List.mem_of_getElem? (i := 111) rfl)) rfl
theorem lm_X8_45 : Cond.methodLink RX8 45 yX8_bidForces ∈ wsU := mU (t2m (List.mem_of_getElem? (i := 112) rfl)) rfl
theorem li_X8_bidForces : Cond.instanceMethod yX8_bidForces ∈ wsU := mU (t2m (List.mem_of_getElem? (i := 114) rfl)) rfl
theorem lc_X8_bidForces : Cond.code yX8_bidForces cX8_bidForces 7 (Option.some FieldType.boolean) ∈ wsU := mU (t2m (List.mem_of_getElem? (i := 115) rfl)) rfl
theorem lm_X8_52 : Cond.methodLink RX8 52 yX8_lost ∈ wsU := mU (t2m (List.mem_of_getElem? (i := 116) rfl)) rfl
theorem li_X8_lost : Cond.instanceMethod yX8_lost ∈ wsU := mU (t2m (List.mem_of_getElem? (i := 118) rfl)) rfl
theorem lc_X8_lost : Cond.code yX8_lost cX8_lost 8 (Option.some FieldType.boolean) ∈ wsU := mU (t2m (List.mem_of_getElem? (i := 119) rfl)) rfl
theorem lm_X8_62 : Cond.methodLink RX8 62 yX8_timeAt ∈ wsU := mU (t2m (List.mem_of_getElem? (i := 120) rfl)) rfl
theorem li_X8_timeAt : Cond.instanceMethod yX8_timeAt ∈ wsU := mU (t2m (List.mem_of_getElem? (i := 121) rfl)) rfl
theorem lv_X8_timeAt : Cond.selects RX8 yX8_timeAt yX8_timeAt ∈ wsU := mU (t2m (List.mem_of_getElem? (i := 122) rfl)) rfl
theorem lc_X8_timeAt : Cond.code yX8_timeAt cX8_timeAt 7 (Option.some FieldType.int) ∈ wsU := mU (t2m (List.mem_of_getElem? (i := 123) rfl)) rfl
theorem lm_X8_56 : Cond.methodLink RX8 56 yX8_neverTakes ∈ wsU := mU (t2m (List.mem_of_getElem? (i := 124) rfl)) rfl
theorem li_X8_neverTakes : Cond.instanceMethod yX8_neverTakes ∈ wsU := mU (t2m (List.mem_of_getElem? (i := 126) rfl)) rfl
theorem lc_X8_neverTakes : Cond.code yX8_neverTakes cX8_neverTakes 2 (Option.some FieldType.boolean) ∈ wsU := mU (t2m (List.mem_of_getElem? (i := 127) rfl)) rfl
theorem lm_X8_59 : Cond.methodLink RX8 59 yX8_taken ∈ wsU := mU (t2m (List.mem_of_getElem? (i := 128) rfl)) rfl
theorem li_X8_taken : Cond.instanceMethod yX8_taken ∈ wsU := mU (t2m (List.mem_of_getElem? (i := 130) rfl)) rfl
theorem lc_X8_taken : Cond.code yX8_taken cX8_taken 8 (Option.some FieldType.boolean) ∈ wsU := mU (t2m (List.mem_of_getElem? (i := 131) rfl)) rfl
theorem lm_X8_49 : Cond.methodLink RX8 49 yX8_answerForces ∈ wsU := mU (t2m (List.mem_of_getElem? (i := 132) rfl)) rfl
theorem li_X8_answerForces : Cond.instanceMethod yX8_answerForces ∈ wsU := mU (t2m (List.mem_of_getElem? (i := 134) rfl)) rfl
theorem lc_X8_answerForces : Cond.code yX8_answerForces cX8_answerForces 7 (Option.some FieldType.boolean) ∈ wsU := mU (t2m (List.mem_of_getElem? (i := 135) rfl)) rfl
theorem lm_X9_123 : Cond.methodLink RX9 123 yX0_findBid ∈ wsU := mU (t2m (List.mem_of_getElem? (i := 136) rfl)) rfl
theorem li_X0_findBid : Cond.instanceMethod yX0_findBid ∈ wsU := mU (t2m (List.mem_of_getElem? (i := 137) rfl)) rfl
theorem lv_X0_findBid : Cond.selects RX0 yX0_findBid yX0_findBid ∈ wsU := mU (t2m (List.mem_of_getElem? (i := 138) rfl)) rfl
theorem lc_X0_findBid : Cond.code yX0_findBid cX0_findBid 7 (Option.some FieldType.int) ∈ wsU := mU (t2m (List.mem_of_getElem? (i := 139) rfl)) rfl
theorem lm_X0_21 : Cond.methodLink RX0 21 yX2_mostOf ∈ wsU := mU (t2m (List.mem_of_getElem? (i := 140) rfl)) rfl
theorem lm_X0_25 : Cond.methodLink RX0 25 yX0_longestOwn ∈ wsU := mU (t2m (List.mem_of_getElem? (i := 141) rfl)) rfl
theorem li_X0_longestOwn : Cond.instanceMethod yX0_longestOwn ∈ wsU := mU (t2m (List.mem_of_getElem? (i := 143) rfl)) rfl
theorem lc_X0_longestOwn : Cond.code yX0_longestOwn cX0_longestOwn 6 (Option.some FieldType.int) ∈ wsU := mU (t2m (List.mem_of_getElem? (i := 144) rfl)) rfl
theorem lm_X0_36 : Cond.methodLink RX0 36 yX0_timeBehind ∈ wsU := mU (t2m (List.mem_of_getElem? (i := 145) rfl)) rfl
theorem li_X0_timeBehind : Cond.instanceMethod yX0_timeBehind ∈ wsU := mU (t2m (List.mem_of_getElem? (i := 147) rfl)) rfl
theorem lc_X0_timeBehind : Cond.code yX0_timeBehind cX0_timeBehind 13 (Option.some FieldType.int) ∈ wsU := mU (t2m (List.mem_of_getElem? (i := 148) rfl)) rfl
theorem lm_X0_49 : Cond.methodLink RX0 49 yX2_takerOf ∈ wsU := mU (t2m (List.mem_of_getElem? (i := 149) rfl)) rfl
theorem lm_X0_52 : Cond.methodLink RX0 52 yX2_gainOf ∈ wsU := mU (t2m (List.mem_of_getElem? (i := 150) rfl)) rfl
theorem lm_X0_55 : Cond.methodLink RX0 55 yX2_toWin ∈ wsU := mU (t2m (List.mem_of_getElem? (i := 151) rfl)) rfl
theorem li_X2_toWin : Cond.instanceMethod yX2_toWin ∈ wsU := mU (t2m (List.mem_of_getElem? (i := 152) rfl)) rfl
theorem lv_X2_toWin : Cond.selects RX2 yX2_toWin yX2_toWin ∈ wsU := mU (t2m (List.mem_of_getElem? (i := 153) rfl)) rfl
theorem lc_X2_toWin : Cond.code yX2_toWin cX2_toWin 2 (Option.some FieldType.int) ∈ wsU := mU (t2m (List.mem_of_getElem? (i := 154) rfl)) rfl
theorem lm_X0_58 : Cond.methodLink RX0 58 yX8_timeAt ∈ wsU := mU (t2m (List.mem_of_getElem? (i := 155) rfl)) rfl
theorem lm_X0_40 : Cond.methodLink RX0 40 ⟨"java/lang/Math", "max", "(II)I"⟩ ∈ wsU := mU (t2m (List.mem_of_getElem? (i := 156) rfl)) rfl
theorem lm_X0_29 : Cond.methodLink RX0 29 yX0_findDelay ∈ wsU := mU (t2m (List.mem_of_getElem? (i := 157) rfl)) rfl
theorem li_X0_findDelay : Cond.instanceMethod yX0_findDelay ∈ wsU := mU (t2m (List.mem_of_getElem? (i := 159) rfl)) rfl
theorem lc_X0_findDelay : Cond.code yX0_findDelay cX0_findDelay 7 (Option.some FieldType.int) ∈ wsU := mU (t2m (List.mem_of_getElem? (i := 160) rfl)) rfl
theorem lm_X0_33 : Cond.methodLink RX0 33 yX0_leastOther ∈ wsU := mU (t2m (List.mem_of_getElem? (i := 161) rfl)) rfl
theorem li_X0_leastOther : Cond.instanceMethod yX0_leastOther ∈ wsU := mU (t2m (List.mem_of_getElem? (i := 163) rfl)) rfl
theorem lc_X0_leastOther : Cond.code yX0_leastOther cX0_leastOther 6 (Option.some FieldType.int) ∈ wsU := mU (t2m (List.mem_of_getElem? (i := 164) rfl)) rfl
theorem lm_X0_46 : Cond.methodLink RX0 46 ⟨"java/lang/Math", "min", "(II)I"⟩ ∈ wsU := mU (t2m (List.mem_of_getElem? (i := 165) rfl)) rfl
theorem lm_X9_127 : Cond.methodLink RX9 127 yX0_findAnswer ∈ wsU := mU (t2m (List.mem_of_getElem? (i := 166) rfl)) rfl
theorem li_X0_findAnswer : Cond.instanceMethod yX0_findAnswer ∈ wsU := mU (t2m (List.mem_of_getElem? (i := 167) rfl)) rfl
theorem lv_X0_findAnswer : Cond.selects RX0 yX0_findAnswer yX0_findAnswer ∈ wsU := mU (t2m (List.mem_of_getElem? (i := 168) rfl)) rfl
theorem lc_X0_findAnswer : Cond.code yX0_findAnswer cX0_findAnswer 11 (Option.some FieldType.int) ∈ wsU := mU (t2m (List.mem_of_getElem? (i := 169) rfl)) rfl
theorem lm_L_31 : Cond.methodLink RL 31 yX9_run ∈ wsU := mU (t2m (List.mem_of_getElem? (i := 170) rfl)) rfl
theorem li_X9_run : Cond.instanceMethod yX9_run ∈ wsU := mU (t2m (List.mem_of_getElem? (i := 171) rfl)) rfl
theorem lv_X9_run : Cond.selects RX9 yX9_run yX9_run ∈ wsU := mU (t2m (List.mem_of_getElem? (i := 172) rfl)) rfl
theorem lc_X9_run : Cond.code yX9_run cX9_run 2 (Option.some FieldType.int) ∈ wsU := mU (t2m (List.mem_of_getElem? (i := 173) rfl)) rfl
theorem lm_X9_131 : Cond.methodLink RX9 131 yX5_firstFault ∈ wsU := mU (t2m (List.mem_of_getElem? (i := 174) rfl)) rfl
theorem li_X5_firstFault : Cond.instanceMethod yX5_firstFault ∈ wsU := mU (t2m (List.mem_of_getElem? (i := 175) rfl)) rfl
theorem lv_X5_firstFault : Cond.selects RX5 yX5_firstFault yX5_firstFault ∈ wsU := mU (t2m (List.mem_of_getElem? (i := 176) rfl)) rfl
theorem lc_X5_firstFault : Cond.code yX5_firstFault cX5_firstFault 5 (Option.some FieldType.int) ∈ wsU := mU (t2m (List.mem_of_getElem? (i := 177) rfl)) rfl
theorem lm_X5_21 : Cond.methodLink RX5 21 yX5_signAt ∈ wsU := mU (t2m (List.mem_of_getElem? (i := 178) rfl)) rfl
theorem li_X5_signAt : Cond.instanceMethod yX5_signAt ∈ wsU := mU (t2m (List.mem_of_getElem? (i := 179) rfl)) rfl
theorem lv_X5_signAt : Cond.selects RX5 yX5_signAt yX5_signAt ∈ wsU := mU (t2m (List.mem_of_getElem? (i := 180) rfl)) rfl
theorem lc_X5_signAt : Cond.code yX5_signAt cX5_signAt 2 (Option.some FieldType.int) ∈ wsU := mU (t2m (List.mem_of_getElem? (i := 181) rfl)) rfl
theorem lm_X5_25 : Cond.methodLink RX5 25 yX5_canStandAsDigit ∈ wsU := mU (t2m (List.mem_of_getElem? (i := 182) rfl)) rfl
theorem ls_X5_canStandAsDigit : Cond.static yX5_canStandAsDigit ∈ wsU := mU (t2m (List.mem_of_getElem? (i := 183) rfl)) rfl
theorem lc_X5_canStandAsDigit : Cond.code yX5_canStandAsDigit cX5_canStandAsDigit 2 (Option.some FieldType.boolean) ∈ wsU := mU (t2m (List.mem_of_getElem? (i := 184) rfl)) rfl
theorem lm_X9_135 : Cond.methodLink RX9 135 yX9_playPad ∈ wsU := mU (t2m (List.mem_of_getElem? (i := 185) rfl)) rfl
theorem li_X9_playPad : Cond.instanceMethod yX9_playPad ∈ wsU := mU (t2m (List.mem_of_getElem? (i := 187) rfl)) rfl
theorem lc_X9_playPad : Cond.code yX9_playPad cX9_playPad 6 (Option.some FieldType.int) ∈ wsU := mU (t2m (List.mem_of_getElem? (i := 188) rfl)) rfl
theorem lm_X9_234 : Cond.methodLink RX9 234 yX5_signAt ∈ wsU := mU (t2m (List.mem_of_getElem? (i := 189) rfl)) rfl
theorem lm_X9_138 : Cond.methodLink RX9 138 yX5_clear ∈ wsU := mU (t2m (List.mem_of_getElem? (i := 190) rfl)) rfl
theorem li_X5_clear : Cond.instanceMethod yX5_clear ∈ wsU := mU (t2m (List.mem_of_getElem? (i := 191) rfl)) rfl
theorem lv_X5_clear : Cond.selects RX5 yX5_clear yX5_clear ∈ wsU := mU (t2m (List.mem_of_getElem? (i := 192) rfl)) rfl
theorem lc_X5_clear : Cond.code yX5_clear cX5_clear 1 (Option.none : Option FieldType) ∈ wsU := mU (t2m (List.mem_of_getElem? (i := 193) rfl)) rfl
theorem lm_L_35 : Cond.methodLink RL 35 yX9_player ∈ wsU := mU (t2m (List.mem_of_getElem? (i := 194) rfl)) rfl
theorem li_X9_player : Cond.instanceMethod yX9_player ∈ wsU := mU (t2m (List.mem_of_getElem? (i := 195) rfl)) rfl
theorem lv_X9_player : Cond.selects RX9 yX9_player yX9_player ∈ wsU := mU (t2m (List.mem_of_getElem? (i := 196) rfl)) rfl
theorem lc_X9_player : Cond.code yX9_player cX9_player 5 (Option.some FieldType.int) ∈ wsU := mU (t2m (List.mem_of_getElem? (i := 197) rfl)) rfl
theorem lm_X9_141 : Cond.methodLink RX9 141 yX9_isPlayer ∈ wsU := mU (t2m (List.mem_of_getElem? (i := 198) rfl)) rfl
theorem ls_X9_isPlayer : Cond.static yX9_isPlayer ∈ wsU := mU (t2m (List.mem_of_getElem? (i := 199) rfl)) rfl
theorem lc_X9_isPlayer : Cond.code yX9_isPlayer cX9_isPlayer 1 (Option.some FieldType.boolean) ∈ wsU := mU (t2m (List.mem_of_getElem? (i := 200) rfl)) rfl
theorem lm_X9_144 : Cond.methodLink RX9 144 yX2_sideOf ∈ wsU := mU (t2m (List.mem_of_getElem? (i := 201) rfl)) rfl
theorem lm_X9_163 : Cond.methodLink RX9 163 yX9_timeWith ∈ wsU := mU (t2m (List.mem_of_getElem? (i := 202) rfl)) rfl
theorem li_X9_timeWith : Cond.instanceMethod yX9_timeWith ∈ wsU := mU (t2m (List.mem_of_getElem? (i := 204) rfl)) rfl
theorem lc_X9_timeWith : Cond.code yX9_timeWith cX9_timeWith 5 (Option.some FieldType.int) ∈ wsU := mU (t2m (List.mem_of_getElem? (i := 205) rfl)) rfl
theorem lm_X9_225 : Cond.methodLink RX9 225 yX2_toWin ∈ wsU := mU (t2m (List.mem_of_getElem? (i := 206) rfl)) rfl
theorem lm_X9_228 : Cond.methodLink RX9 228 yX8_timeAt ∈ wsU := mU (t2m (List.mem_of_getElem? (i := 207) rfl)) rfl
theorem lm_L_39 : Cond.methodLink RL 39 yX9_count ∈ wsU := mU (t2m (List.mem_of_getElem? (i := 208) rfl)) rfl
theorem li_X9_count : Cond.instanceMethod yX9_count ∈ wsU := mU (t2m (List.mem_of_getElem? (i := 209) rfl)) rfl
theorem lv_X9_count : Cond.selects RX9 yX9_count yX9_count ∈ wsU := mU (t2m (List.mem_of_getElem? (i := 210) rfl)) rfl
theorem lc_X9_count : Cond.code yX9_count cX9_count 2 (Option.some FieldType.int) ∈ wsU := mU (t2m (List.mem_of_getElem? (i := 211) rfl)) rfl
theorem lm_X9_172 : Cond.methodLink RX9 172 yX2_winner ∈ wsU := mU (t2m (List.mem_of_getElem? (i := 212) rfl)) rfl
theorem lm_L_44 : Cond.methodLink RL 44 yX9_forced ∈ wsU := mU (t2m (List.mem_of_getElem? (i := 213) rfl)) rfl
theorem li_X9_forced : Cond.instanceMethod yX9_forced ∈ wsU := mU (t2m (List.mem_of_getElem? (i := 214) rfl)) rfl
theorem lv_X9_forced : Cond.selects RX9 yX9_forced yX9_forced ∈ wsU := mU (t2m (List.mem_of_getElem? (i := 215) rfl)) rfl
theorem lc_X9_forced : Cond.code yX9_forced cX9_forced 3 (Option.some FieldType.int) ∈ wsU := mU (t2m (List.mem_of_getElem? (i := 216) rfl)) rfl
theorem lm_L_48 : Cond.methodLink RL 48 yX9_ahead ∈ wsU := mU (t2m (List.mem_of_getElem? (i := 217) rfl)) rfl
theorem li_X9_ahead : Cond.instanceMethod yX9_ahead ∈ wsU := mU (t2m (List.mem_of_getElem? (i := 218) rfl)) rfl
theorem lv_X9_ahead : Cond.selects RX9 yX9_ahead yX9_ahead ∈ wsU := mU (t2m (List.mem_of_getElem? (i := 219) rfl)) rfl
theorem lc_X9_ahead : Cond.code yX9_ahead cX9_ahead 3 (Option.some FieldType.int) ∈ wsU := mU (t2m (List.mem_of_getElem? (i := 220) rfl)) rfl
theorem lm_X9_184 : Cond.methodLink RX9 184 yX1_seesWinOf ∈ wsU := mU (t2m (List.mem_of_getElem? (i := 221) rfl)) rfl
theorem li_X1_seesWinOf : Cond.instanceMethod yX1_seesWinOf ∈ wsU := mU (t2m (List.mem_of_getElem? (i := 222) rfl)) rfl
theorem lv_X1_seesWinOf : Cond.selects RX1 yX1_seesWinOf yX1_seesWinOf ∈ wsU := mU (t2m (List.mem_of_getElem? (i := 223) rfl)) rfl
theorem lc_X1_seesWinOf : Cond.code yX1_seesWinOf cX1_seesWinOf 5 (Option.some FieldType.boolean) ∈ wsU := mU (t2m (List.mem_of_getElem? (i := 224) rfl)) rfl
theorem lm_X1_15 : Cond.methodLink RX1 15 yX2_mostOf ∈ wsU := mU (t2m (List.mem_of_getElem? (i := 225) rfl)) rfl
theorem lm_X1_21 : Cond.methodLink RX1 21 ⟨"java/lang/Math", "min", "(II)I"⟩ ∈ wsU := mU (t2m (List.mem_of_getElem? (i := 226) rfl)) rfl
theorem lm_X1_27 : Cond.methodLink RX1 27 yX2_toWin ∈ wsU := mU (t2m (List.mem_of_getElem? (i := 227) rfl)) rfl
theorem lm_X1_34 : Cond.methodLink RX1 34 yX1_seesWin ∈ wsU := mU (t2m (List.mem_of_getElem? (i := 228) rfl)) rfl
theorem li_X1_seesWin : Cond.instanceMethod yX1_seesWin ∈ wsU := mU (t2m (List.mem_of_getElem? (i := 230) rfl)) rfl
theorem lc_X1_seesWin : Cond.code yX1_seesWin cX1_seesWin 6 (Option.some FieldType.boolean) ∈ wsU := mU (t2m (List.mem_of_getElem? (i := 231) rfl)) rfl
theorem lm_X1_41 : Cond.methodLink RX1 41 yX1_seesBid ∈ wsU := mU (t2m (List.mem_of_getElem? (i := 232) rfl)) rfl
theorem li_X1_seesBid : Cond.instanceMethod yX1_seesBid ∈ wsU := mU (t2m (List.mem_of_getElem? (i := 234) rfl)) rfl
theorem lc_X1_seesBid : Cond.code yX1_seesBid cX1_seesBid 6 (Option.some FieldType.boolean) ∈ wsU := mU (t2m (List.mem_of_getElem? (i := 235) rfl)) rfl
theorem lm_X1_48 : Cond.methodLink RX1 48 yX1_standsAllAnswers ∈ wsU := mU (t2m (List.mem_of_getElem? (i := 236) rfl)) rfl
theorem li_X1_standsAllAnswers : Cond.instanceMethod yX1_standsAllAnswers ∈ wsU := mU (t2m (List.mem_of_getElem? (i := 238) rfl)) rfl
theorem lc_X1_standsAllAnswers : Cond.code yX1_standsAllAnswers cX1_standsAllAnswers 7 (Option.some FieldType.boolean) ∈ wsU := mU (t2m (List.mem_of_getElem? (i := 239) rfl)) rfl
theorem lm_X1_52 : Cond.methodLink RX1 52 yX1_canTake ∈ wsU := mU (t3m (List.mem_of_getElem? (i := 0) rfl)) rfl
theorem li_X1_canTake : Cond.instanceMethod yX1_canTake ∈ wsU := mU (t3m (List.mem_of_getElem? (i := 2) rfl)) rfl
theorem lc_X1_canTake : Cond.code yX1_canTake cX1_canTake 2 (Option.some FieldType.boolean) ∈ wsU := mU (t3m (List.mem_of_getElem? (i := 3) rfl)) rfl
theorem lm_X1_56 : Cond.methodLink RX1 56 yX1_seesTaken ∈ wsU := mU (t3m (List.mem_of_getElem? (i := 4) rfl)) rfl
theorem li_X1_seesTaken : Cond.instanceMethod yX1_seesTaken ∈ wsU := mU (t3m (List.mem_of_getElem? (i := 6) rfl)) rfl
theorem lc_X1_seesTaken : Cond.code yX1_seesTaken cX1_seesTaken 7 (Option.some FieldType.boolean) ∈ wsU := mU (t3m (List.mem_of_getElem? (i := 7) rfl)) rfl
theorem lm_X1_72 : Cond.methodLink RX1 72 yX2_gainOf ∈ wsU := mU (t3m (List.mem_of_getElem? (i := 8) rfl)) rfl
theorem lm_X1_60 : Cond.methodLink RX1 60 yX1_leastTaking ∈ wsU := mU (t3m (List.mem_of_getElem? (i := 9) rfl)) rfl
theorem li_X1_leastTaking : Cond.instanceMethod yX1_leastTaking ∈ wsU := mU (t3m (List.mem_of_getElem? (i := 11) rfl)) rfl
theorem lc_X1_leastTaking : Cond.code yX1_leastTaking cX1_leastTaking 2 (Option.some FieldType.int) ∈ wsU := mU (t3m (List.mem_of_getElem? (i := 12) rfl)) rfl
theorem lm_X1_63 : Cond.methodLink RX1 63 yX1_seesLost ∈ wsU := mU (t3m (List.mem_of_getElem? (i := 13) rfl)) rfl
theorem li_X1_seesLost : Cond.instanceMethod yX1_seesLost ∈ wsU := mU (t3m (List.mem_of_getElem? (i := 15) rfl)) rfl
theorem lc_X1_seesLost : Cond.code yX1_seesLost cX1_seesLost 7 (Option.some FieldType.boolean) ∈ wsU := mU (t3m (List.mem_of_getElem? (i := 16) rfl)) rfl
theorem lm_X1_45 : Cond.methodLink RX1 45 yX1_seesAnswers ∈ wsU := mU (t3m (List.mem_of_getElem? (i := 17) rfl)) rfl
theorem li_X1_seesAnswers : Cond.instanceMethod yX1_seesAnswers ∈ wsU := mU (t3m (List.mem_of_getElem? (i := 19) rfl)) rfl
theorem lc_X1_seesAnswers : Cond.code yX1_seesAnswers cX1_seesAnswers 6 (Option.some FieldType.boolean) ∈ wsU := mU (t3m (List.mem_of_getElem? (i := 20) rfl)) rfl
theorem lm_X1_66 : Cond.methodLink RX1 66 yX1_hasAnswer ∈ wsU := mU (t3m (List.mem_of_getElem? (i := 21) rfl)) rfl
theorem li_X1_hasAnswer : Cond.instanceMethod yX1_hasAnswer ∈ wsU := mU (t3m (List.mem_of_getElem? (i := 23) rfl)) rfl
theorem lc_X1_hasAnswer : Cond.code yX1_hasAnswer cX1_hasAnswer 7 (Option.some FieldType.boolean) ∈ wsU := mU (t3m (List.mem_of_getElem? (i := 24) rfl)) rfl
theorem lm_L_52 : Cond.methodLink RL 52 yX9_bestBid ∈ wsU := mU (t3m (List.mem_of_getElem? (i := 25) rfl)) rfl
theorem li_X9_bestBid : Cond.instanceMethod yX9_bestBid ∈ wsU := mU (t3m (List.mem_of_getElem? (i := 26) rfl)) rfl
theorem lv_X9_bestBid : Cond.selects RX9 yX9_bestBid yX9_bestBid ∈ wsU := mU (t3m (List.mem_of_getElem? (i := 27) rfl)) rfl
theorem lc_X9_bestBid : Cond.code yX9_bestBid cX9_bestBid 1 (Option.some FieldType.int) ∈ wsU := mU (t3m (List.mem_of_getElem? (i := 28) rfl)) rfl
theorem lm_L_56 : Cond.methodLink RL 56 yX9_bestAnswer ∈ wsU := mU (t3m (List.mem_of_getElem? (i := 29) rfl)) rfl
theorem li_X9_bestAnswer : Cond.instanceMethod yX9_bestAnswer ∈ wsU := mU (t3m (List.mem_of_getElem? (i := 30) rfl)) rfl
theorem lv_X9_bestAnswer : Cond.selects RX9 yX9_bestAnswer yX9_bestAnswer ∈ wsU := mU (t3m (List.mem_of_getElem? (i := 31) rfl)) rfl
theorem lc_X9_bestAnswer : Cond.code yX9_bestAnswer cX9_bestAnswer 2 (Option.some FieldType.int) ∈ wsU := mU (t3m (List.mem_of_getElem? (i := 32) rfl)) rfl
theorem lm_L_60 : Cond.methodLink RL 60 yX9_keeps ∈ wsU := mU (t3m (List.mem_of_getElem? (i := 33) rfl)) rfl
theorem li_X9_keeps : Cond.instanceMethod yX9_keeps ∈ wsU := mU (t3m (List.mem_of_getElem? (i := 34) rfl)) rfl
theorem lv_X9_keeps : Cond.selects RX9 yX9_keeps yX9_keeps ∈ wsU := mU (t3m (List.mem_of_getElem? (i := 35) rfl)) rfl
theorem lc_X9_keeps : Cond.code yX9_keeps cX9_keeps 1 (Option.some FieldType.int) ∈ wsU := mU (t3m (List.mem_of_getElem? (i := 36) rfl)) rfl
theorem lm_X9_187 : Cond.methodLink RX9 187 yX0_countKeeping ∈ wsU := mU (t3m (List.mem_of_getElem? (i := 37) rfl)) rfl
theorem li_X0_countKeeping : Cond.instanceMethod yX0_countKeeping ∈ wsU := mU (t3m (List.mem_of_getElem? (i := 38) rfl)) rfl
theorem lv_X0_countKeeping : Cond.selects RX0 yX0_countKeeping yX0_countKeeping ∈ wsU := mU (t3m (List.mem_of_getElem? (i := 39) rfl)) rfl
theorem lc_X0_countKeeping : Cond.code yX0_countKeeping cX0_countKeeping 5 (Option.some FieldType.int) ∈ wsU := mU (t3m (List.mem_of_getElem? (i := 40) rfl)) rfl
theorem lm_L_64 : Cond.methodLink RL 64 yX9_leastHours ∈ wsU := mU (t3m (List.mem_of_getElem? (i := 41) rfl)) rfl
theorem li_X9_leastHours : Cond.instanceMethod yX9_leastHours ∈ wsU := mU (t3m (List.mem_of_getElem? (i := 42) rfl)) rfl
theorem lv_X9_leastHours : Cond.selects RX9 yX9_leastHours yX9_leastHours ∈ wsU := mU (t3m (List.mem_of_getElem? (i := 43) rfl)) rfl
theorem lc_X9_leastHours : Cond.code yX9_leastHours cX9_leastHours 3 (Option.some FieldType.int) ∈ wsU := mU (t3m (List.mem_of_getElem? (i := 44) rfl)) rfl
theorem lm_L_70 : Cond.methodLink RL 70 yX9_put ∈ wsU := mU (t3m (List.mem_of_getElem? (i := 45) rfl)) rfl
theorem li_X9_put : Cond.instanceMethod yX9_put ∈ wsU := mU (t3m (List.mem_of_getElem? (i := 46) rfl)) rfl
theorem lv_X9_put : Cond.selects RX9 yX9_put yX9_put ∈ wsU := mU (t3m (List.mem_of_getElem? (i := 47) rfl)) rfl
theorem lc_X9_put : Cond.code yX9_put cX9_put 4 (Option.some FieldType.int) ∈ wsU := mU (t3m (List.mem_of_getElem? (i := 48) rfl)) rfl
theorem lm_X9_193 : Cond.methodLink RX9 193 yX5_countSigns ∈ wsU := mU (t3m (List.mem_of_getElem? (i := 49) rfl)) rfl
theorem ls_X5_countSigns : Cond.static yX5_countSigns ∈ wsU := mU (t3m (List.mem_of_getElem? (i := 50) rfl)) rfl
theorem lc_X5_countSigns : Cond.code yX5_countSigns cX5_countSigns 6 (Option.some FieldType.int) ∈ wsU := mU (t3m (List.mem_of_getElem? (i := 51) rfl)) rfl
theorem lq_X5_15 : Cond.constantLong RX5 15 (255 : Int64) ∈ wsU := mU (t3m (List.mem_of_getElem? (i := 52) rfl)) rfl
theorem lm_X9_197 : Cond.methodLink RX9 197 yX5_append ∈ wsU := mU (t3m (List.mem_of_getElem? (i := 53) rfl)) rfl
theorem li_X5_append : Cond.instanceMethod yX5_append ∈ wsU := mU (t3m (List.mem_of_getElem? (i := 54) rfl)) rfl
theorem lv_X5_append : Cond.selects RX5 yX5_append yX5_append ∈ wsU := mU (t3m (List.mem_of_getElem? (i := 55) rfl)) rfl
theorem lc_X5_append : Cond.code yX5_append cX5_append 5 (Option.none : Option FieldType) ∈ wsU := mU (t3m (List.mem_of_getElem? (i := 56) rfl)) rfl
theorem lm_L_75 : Cond.methodLink RL 75 yX9_wipe ∈ wsU := mU (t3m (List.mem_of_getElem? (i := 57) rfl)) rfl
theorem li_X9_wipe : Cond.instanceMethod yX9_wipe ∈ wsU := mU (t3m (List.mem_of_getElem? (i := 58) rfl)) rfl
theorem lv_X9_wipe : Cond.selects RX9 yX9_wipe yX9_wipe ∈ wsU := mU (t3m (List.mem_of_getElem? (i := 59) rfl)) rfl
theorem lc_X9_wipe : Cond.code yX9_wipe cX9_wipe 2 (Option.some FieldType.int) ∈ wsU := mU (t3m (List.mem_of_getElem? (i := 60) rfl)) rfl
theorem lm_L_79 : Cond.methodLink RL 79 yX9_fault ∈ wsU := mU (t3m (List.mem_of_getElem? (i := 61) rfl)) rfl
theorem li_X9_fault : Cond.instanceMethod yX9_fault ∈ wsU := mU (t3m (List.mem_of_getElem? (i := 62) rfl)) rfl
theorem lv_X9_fault : Cond.selects RX9 yX9_fault yX9_fault ∈ wsU := mU (t3m (List.mem_of_getElem? (i := 63) rfl)) rfl
theorem lc_X9_fault : Cond.code yX9_fault cX9_fault 1 (Option.some FieldType.int) ∈ wsU := mU (t3m (List.mem_of_getElem? (i := 64) rfl)) rfl
theorem lm_L_83 : Cond.methodLink RL 83 yX9_undo ∈ wsU := mU (t3m (List.mem_of_getElem? (i := 65) rfl)) rfl
theorem li_X9_undo : Cond.instanceMethod yX9_undo ∈ wsU := mU (t3m (List.mem_of_getElem? (i := 66) rfl)) rfl
theorem lv_X9_undo : Cond.selects RX9 yX9_undo yX9_undo ∈ wsU := mU (t3m (List.mem_of_getElem? (i := 67) rfl)) rfl
theorem lc_X9_undo : Cond.code yX9_undo cX9_undo 1 (Option.some FieldType.int) ∈ wsU := mU (t3m (List.mem_of_getElem? (i := 68) rfl)) rfl
theorem lm_X9_201 : Cond.methodLink RX9 201 yX3_takeBack ∈ wsU := mU (t3m (List.mem_of_getElem? (i := 69) rfl)) rfl
theorem li_X3_takeBack : Cond.instanceMethod yX3_takeBack ∈ wsU := mU (t3m (List.mem_of_getElem? (i := 70) rfl)) rfl
theorem lv_X3_takeBack : Cond.selects RX3 yX3_takeBack yX3_takeBack ∈ wsU := mU (t3m (List.mem_of_getElem? (i := 71) rfl)) rfl
theorem lc_X3_takeBack : Cond.code yX3_takeBack cX3_takeBack 3 (Option.none : Option FieldType) ∈ wsU := mU (t3m (List.mem_of_getElem? (i := 72) rfl)) rfl
theorem lm_L_87 : Cond.methodLink RL 87 yX9_save ∈ wsU := mU (t3m (List.mem_of_getElem? (i := 73) rfl)) rfl
theorem li_X9_save : Cond.instanceMethod yX9_save ∈ wsU := mU (t3m (List.mem_of_getElem? (i := 74) rfl)) rfl
theorem lv_X9_save : Cond.selects RX9 yX9_save yX9_save ∈ wsU := mU (t3m (List.mem_of_getElem? (i := 75) rfl)) rfl
theorem lc_X9_save : Cond.code yX9_save cX9_save 3 (Option.some FieldType.int) ∈ wsU := mU (t3m (List.mem_of_getElem? (i := 76) rfl)) rfl
theorem lm_X9_204 : Cond.methodLink RX9 204 yX9_isSlot ∈ wsU := mU (t3m (List.mem_of_getElem? (i := 77) rfl)) rfl
theorem ls_X9_isSlot : Cond.static yX9_isSlot ∈ wsU := mU (t3m (List.mem_of_getElem? (i := 78) rfl)) rfl
theorem lc_X9_isSlot : Cond.code yX9_isSlot cX9_isSlot 1 (Option.some FieldType.boolean) ∈ wsU := mU (t3m (List.mem_of_getElem? (i := 79) rfl)) rfl
theorem lm_X9_207 : Cond.methodLink RX9 207 yX9_slotOf ∈ wsU := mU (t3m (List.mem_of_getElem? (i := 80) rfl)) rfl
theorem li_X9_slotOf : Cond.instanceMethod yX9_slotOf ∈ wsU := mU (t3m (List.mem_of_getElem? (i := 82) rfl)) rfl
theorem lc_X9_slotOf : Cond.code yX9_slotOf cX9_slotOf 2 (Option.some (FieldType.object "BorrowedHours$Slot")) ∈ wsU := mU (t3m (List.mem_of_getElem? (i := 83) rfl)) rfl
theorem lm_X9_214 : Cond.methodLink RX9 214 yX2_copyFrom ∈ wsU := mU (t3m (List.mem_of_getElem? (i := 84) rfl)) rfl
theorem lm_L_91 : Cond.methodLink RL 91 yX9_restore ∈ wsU := mU (t3m (List.mem_of_getElem? (i := 85) rfl)) rfl
theorem li_X9_restore : Cond.instanceMethod yX9_restore ∈ wsU := mU (t3m (List.mem_of_getElem? (i := 86) rfl)) rfl
theorem lv_X9_restore : Cond.selects RX9 yX9_restore yX9_restore ∈ wsU := mU (t3m (List.mem_of_getElem? (i := 87) rfl)) rfl
theorem lc_X9_restore : Cond.code yX9_restore cX9_restore 3 (Option.some FieldType.int) ∈ wsU := mU (t3m (List.mem_of_getElem? (i := 88) rfl)) rfl
theorem ll_L_10 : Cond.classLink RL 10 RX10 ∈ wsU := mU (t3m (List.mem_of_getElem? (i := 89) rfl)) rfl
theorem lt_X10 : Cond.instantiable RX10 15 ∈ wsU := mU (t3m (List.mem_of_getElem? (i := 90) rfl)) rfl
theorem lm_L_12 : Cond.methodLink RL 12 yX10_init ∈ wsU := mU (t3m (List.mem_of_getElem? (i := 91) rfl)) rfl
theorem li_X10_init : Cond.instanceMethod yX10_init ∈ wsU := mU (t3m (List.mem_of_getElem? (i := 92) rfl)) rfl
theorem lc_X10_init : Cond.code yX10_init cX10_init 1 (Option.none : Option FieldType) ∈ wsU := mU (t3m (List.mem_of_getElem? (i := 93) rfl)) rfl
theorem lm_X10_1 : Cond.methodLink RX10 1 objectInit ∈ wsU := mU (t3m (List.mem_of_getElem? (i := 94) rfl)) rfl
theorem lm_X10_31 : Cond.methodLink RX10 31 yX10_newGame ∈ wsU := mU (t3m (List.mem_of_getElem? (i := 95) rfl)) rfl
theorem li_X10_newGame : Cond.instanceMethod yX10_newGame ∈ wsU := mU (t3m (List.mem_of_getElem? (i := 97) rfl)) rfl
theorem lc_X10_newGame : Cond.code yX10_newGame cX10_newGame 2 (Option.none : Option FieldType) ∈ wsU := mU (t3m (List.mem_of_getElem? (i := 98) rfl)) rfl
theorem lf_X10_7 : Cond.fieldLink RX10 7 "BorrowedHoursModel" "all" "[I" ∈ wsU := mU (t3m (List.mem_of_getElem? (i := 99) rfl)) rfl
theorem lf_X10_13 : Cond.fieldLink RX10 13 "BorrowedHoursModel" "history" "[I" ∈ wsU := mU (t3m (List.mem_of_getElem? (i := 100) rfl)) rfl
theorem lf_X10_34 : Cond.fieldLink RX10 34 "BorrowedHoursModel" "historyLong" "I" ∈ wsU := mU (t3m (List.mem_of_getElem? (i := 101) rfl)) rfl
theorem lf_X10_16 : Cond.fieldLink RX10 16 "BorrowedHoursModel" "slots" "[I" ∈ wsU := mU (t3m (List.mem_of_getElem? (i := 102) rfl)) rfl
theorem lf_X10_19 : Cond.fieldLink RX10 19 "BorrowedHoursModel" "isSaved" "[I" ∈ wsU := mU (t3m (List.mem_of_getElem? (i := 103) rfl)) rfl
theorem lf_X10_22 : Cond.fieldLink RX10 22 "BorrowedHoursModel" "times" "[I" ∈ wsU := mU (t3m (List.mem_of_getElem? (i := 104) rfl)) rfl
theorem lf_X10_73 : Cond.fieldLink RX10 73 "BorrowedHoursModel" "isKnown" "I" ∈ wsU := mU (t3m (List.mem_of_getElem? (i := 105) rfl)) rfl
theorem lf_X10_76 : Cond.fieldLink RX10 76 "BorrowedHoursModel" "knownRules" "I" ∈ wsU := mU (t3m (List.mem_of_getElem? (i := 106) rfl)) rfl
theorem lf_X10_79 : Cond.fieldLink RX10 79 "BorrowedHoursModel" "knownSum" "I" ∈ wsU := mU (t3m (List.mem_of_getElem? (i := 107) rfl)) rfl
theorem lf_X10_25 : Cond.fieldLink RX10 25 "BorrowedHoursModel" "text" "[I" ∈ wsU := mU (t3m (List.mem_of_getElem? (i := 108) rfl)) rfl
theorem lf_X10_132 : Cond.fieldLink RX10 132 "BorrowedHoursModel" "textLong" "I" ∈ wsU := mU (t3m (List.mem_of_getElem? (i := 109) rfl)) rfl
theorem lf_X10_159 : Cond.fieldLink RX10 159 "BorrowedHoursModel" "spot" "I" ∈ wsU := mU (t3m (List.mem_of_getElem? (i := 110) rfl)) rfl
theorem lf_X10_165 : Cond.fieldLink RX10 165 "BorrowedHoursModel" "number" "I" ∈ wsU := mU (t3m (List.mem_of_getElem? (i := 111) rfl)) rfl
theorem lf_X10_28 : Cond.fieldLink RX10 28 "BorrowedHoursModel" "told" "[I" ∈ wsU := mU (t3m (List.mem_of_getElem? (i := 112) rfl)) rfl
theorem lf_X10_171 : Cond.fieldLink RX10 171 "BorrowedHoursModel" "read" "I" ∈ wsU := mU (t3m (List.mem_of_getElem? (i := 113) rfl)) rfl
theorem ly_X10_all : Cond.laysFinal "BorrowedHoursModel" "BorrowedHoursModel" "all" "[I" ∈ wsU := mU (t3m (List.mem_of_getElem? (i := 114) rfl)) rfl
theorem ly_X10_history : Cond.laysFinal "BorrowedHoursModel" "BorrowedHoursModel" "history" "[I" ∈ wsU := mU (t3m (List.mem_of_getElem? (i := 116) rfl)) rfl
theorem ly_X10_historyLong : Cond.lays "BorrowedHoursModel" "BorrowedHoursModel" "historyLong" "I" ∈ wsU := mU (t3m (List.mem_of_getElem? (i := 118) rfl)) rfl
theorem ly_X10_slots : Cond.laysFinal "BorrowedHoursModel" "BorrowedHoursModel" "slots" "[I" ∈ wsU := mU (t3m (List.mem_of_getElem? (i := 120) rfl)) rfl
theorem ly_X10_isSaved : Cond.laysFinal "BorrowedHoursModel" "BorrowedHoursModel" "isSaved" "[I" ∈ wsU := mU (t3m (List.mem_of_getElem? (i := 122) rfl)) rfl
theorem ly_X10_times : Cond.laysFinal "BorrowedHoursModel" "BorrowedHoursModel" "times" "[I" ∈ wsU := mU (t3m (List.mem_of_getElem? (i := 124) rfl)) rfl
theorem ly_X10_isKnown : Cond.lays "BorrowedHoursModel" "BorrowedHoursModel" "isKnown" "I" ∈ wsU := mU (t3m (List.mem_of_getElem? (i := 126) rfl)) rfl
theorem ly_X10_knownRules : Cond.lays "BorrowedHoursModel" "BorrowedHoursModel" "knownRules" "I" ∈ wsU := mU (t3m (List.mem_of_getElem? (i := 128) rfl)) rfl
theorem ly_X10_knownSum : Cond.lays "BorrowedHoursModel" "BorrowedHoursModel" "knownSum" "I" ∈ wsU := mU (t3m (List.mem_of_getElem? (i := 130) rfl)) rfl
theorem ly_X10_text : Cond.laysFinal "BorrowedHoursModel" "BorrowedHoursModel" "text" "[I" ∈ wsU := mU (t3m (List.mem_of_getElem? (i := 132) rfl)) rfl
theorem ly_X10_textLong : Cond.lays "BorrowedHoursModel" "BorrowedHoursModel" "textLong" "I" ∈ wsU := mU (t3m (List.mem_of_getElem? (i := 134) rfl)) rfl
theorem ly_X10_spot : Cond.lays "BorrowedHoursModel" "BorrowedHoursModel" "spot" "I" ∈ wsU := mU (t3m (List.mem_of_getElem? (i := 136) rfl)) rfl
theorem ly_X10_number : Cond.lays "BorrowedHoursModel" "BorrowedHoursModel" "number" "I" ∈ wsU := mU (t3m (List.mem_of_getElem? (i := 138) rfl)) rfl
theorem ly_X10_told : Cond.laysFinal "BorrowedHoursModel" "BorrowedHoursModel" "told" "[I" ∈ wsU := mU (t3m (List.mem_of_getElem? (i := 140) rfl)) rfl
theorem ly_X10_read : Cond.lays "BorrowedHoursModel" "BorrowedHoursModel" "read" "I" ∈ wsU := mU (t3m (List.mem_of_getElem? (i := 142) rfl)) rfl
theorem lm_L_17 : Cond.methodLink RL 17 yX10_set ∈ wsU := mU (t3m (List.mem_of_getElem? (i := 145) rfl)) rfl
theorem li_X10_set : Cond.instanceMethod yX10_set ∈ wsU := mU (t3m (List.mem_of_getElem? (i := 146) rfl)) rfl
theorem lv_X10_set : Cond.selects RX10 yX10_set yX10_set ∈ wsU := mU (t3m (List.mem_of_getElem? (i := 147) rfl)) rfl
theorem lc_X10_set : Cond.code yX10_set cX10_set 4 (Option.some FieldType.int) ∈ wsU := mU (t3m (List.mem_of_getElem? (i := 148) rfl)) rfl
theorem lm_X10_101 : Cond.methodLink RX10 101 yX10_isSetting ∈ wsU := mU (t3m (List.mem_of_getElem? (i := 149) rfl)) rfl
theorem ls_X10_isSetting : Cond.static yX10_isSetting ∈ wsU := mU (t3m (List.mem_of_getElem? (i := 150) rfl)) rfl
theorem lc_X10_isSetting : Cond.code yX10_isSetting cX10_isSetting 2 (Option.some FieldType.boolean) ∈ wsU := mU (t3m (List.mem_of_getElem? (i := 151) rfl)) rfl
theorem lq_X10_93 : Cond.constantLong RX10 93 (3 : Int64) ∈ wsU := mU (t3m (List.mem_of_getElem? (i := 152) rfl)) rfl
theorem lm_X10_95 : Cond.methodLink RX10 95 yX10_in ∈ wsU := mU (t3m (List.mem_of_getElem? (i := 153) rfl)) rfl
theorem ls_X10_in : Cond.static yX10_in ∈ wsU := mU (t3m (List.mem_of_getElem? (i := 154) rfl)) rfl
theorem lc_X10_in : Cond.code yX10_in cX10_in 6 (Option.some FieldType.boolean) ∈ wsU := mU (t3m (List.mem_of_getElem? (i := 155) rfl)) rfl
theorem lq_X10_99 : Cond.constantLong RX10 99 (2 : Int64) ∈ wsU := mU (t3m (List.mem_of_getElem? (i := 156) rfl)) rfl
theorem lm_X10_105 : Cond.methodLink RX10 105 yX10_changes ∈ wsU := mU (t3m (List.mem_of_getElem? (i := 157) rfl)) rfl
theorem li_X10_changes : Cond.instanceMethod yX10_changes ∈ wsU := mU (t3m (List.mem_of_getElem? (i := 159) rfl)) rfl
theorem lc_X10_changes : Cond.code yX10_changes cX10_changes 2 (Option.none : Option FieldType) ∈ wsU := mU (t3m (List.mem_of_getElem? (i := 160) rfl)) rfl
theorem lm_L_21 : Cond.methodLink RL 21 yX10_begin ∈ wsU := mU (t3m (List.mem_of_getElem? (i := 161) rfl)) rfl
theorem li_X10_begin : Cond.instanceMethod yX10_begin ∈ wsU := mU (t3m (List.mem_of_getElem? (i := 162) rfl)) rfl
theorem lv_X10_begin : Cond.selects RX10 yX10_begin yX10_begin ∈ wsU := mU (t3m (List.mem_of_getElem? (i := 163) rfl)) rfl
theorem lc_X10_begin : Cond.code yX10_begin cX10_begin 4 (Option.some FieldType.int) ∈ wsU := mU (t3m (List.mem_of_getElem? (i := 164) rfl)) rfl
theorem lq_X10_108 : Cond.constantLong RX10 108 (6 : Int64) ∈ wsU := mU (t3m (List.mem_of_getElem? (i := 165) rfl)) rfl
theorem lm_L_25 : Cond.methodLink RL 25 yX10_round ∈ wsU := mU (t3m (List.mem_of_getElem? (i := 166) rfl)) rfl
theorem li_X10_round : Cond.instanceMethod yX10_round ∈ wsU := mU (t3m (List.mem_of_getElem? (i := 167) rfl)) rfl
theorem lv_X10_round : Cond.selects RX10 yX10_round yX10_round ∈ wsU := mU (t3m (List.mem_of_getElem? (i := 168) rfl)) rfl
theorem lc_X10_round : Cond.code yX10_round cX10_round 3 (Option.some FieldType.int) ∈ wsU := mU (t3m (List.mem_of_getElem? (i := 169) rfl)) rfl
theorem lq_X10_110 : Cond.constantLong RX10 110 (14 : Int64) ∈ wsU := mU (t3m (List.mem_of_getElem? (i := 170) rfl)) rfl
theorem lm_X10_112 : Cond.methodLink RX10 112 yX10_canPlay ∈ wsU := mU (t3m (List.mem_of_getElem? (i := 171) rfl)) rfl
theorem li_X10_canPlay : Cond.instanceMethod yX10_canPlay ∈ wsU := mU (t3m (List.mem_of_getElem? (i := 173) rfl)) rfl
theorem lc_X10_canPlay : Cond.code yX10_canPlay cX10_canPlay 3 (Option.some FieldType.boolean) ∈ wsU := mU (t3m (List.mem_of_getElem? (i := 174) rfl)) rfl
theorem lm_X10_46 : Cond.methodLink RX10 46 yX10_isOver ∈ wsU := mU (t3m (List.mem_of_getElem? (i := 175) rfl)) rfl
theorem li_X10_isOver : Cond.instanceMethod yX10_isOver ∈ wsU := mU (t3m (List.mem_of_getElem? (i := 177) rfl)) rfl
theorem lc_X10_isOver : Cond.code yX10_isOver cX10_isOver 1 (Option.some FieldType.boolean) ∈ wsU := mU (t3m (List.mem_of_getElem? (i := 178) rfl)) rfl
theorem lm_X10_38 : Cond.methodLink RX10 38 yX10_winnerAt ∈ wsU := mU (t3m (List.mem_of_getElem? (i := 179) rfl)) rfl
theorem li_X10_winnerAt : Cond.instanceMethod yX10_winnerAt ∈ wsU := mU (t3m (List.mem_of_getElem? (i := 181) rfl)) rfl
theorem lc_X10_winnerAt : Cond.code yX10_winnerAt cX10_winnerAt 2 (Option.some FieldType.int) ∈ wsU := mU (t3m (List.mem_of_getElem? (i := 182) rfl)) rfl
theorem lm_X10_50 : Cond.methodLink RX10 50 yX10_most ∈ wsU := mU (t3m (List.mem_of_getElem? (i := 183) rfl)) rfl
theorem li_X10_most : Cond.instanceMethod yX10_most ∈ wsU := mU (t3m (List.mem_of_getElem? (i := 185) rfl)) rfl
theorem lc_X10_most : Cond.code yX10_most cX10_most 2 (Option.some FieldType.int) ∈ wsU := mU (t3m (List.mem_of_getElem? (i := 186) rfl)) rfl
theorem lm_X10_115 : Cond.methodLink RX10 115 yX10_plays ∈ wsU := mU (t3m (List.mem_of_getElem? (i := 187) rfl)) rfl
theorem li_X10_plays : Cond.instanceMethod yX10_plays ∈ wsU := mU (t3m (List.mem_of_getElem? (i := 189) rfl)) rfl
theorem lc_X10_plays : Cond.code yX10_plays cX10_plays 6 (Option.some FieldType.int) ∈ wsU := mU (t3m (List.mem_of_getElem? (i := 190) rfl)) rfl
theorem lm_X10_42 : Cond.methodLink RX10 42 yX10_taker ∈ wsU := mU (t3m (List.mem_of_getElem? (i := 191) rfl)) rfl
theorem li_X10_taker : Cond.instanceMethod yX10_taker ∈ wsU := mU (t3m (List.mem_of_getElem? (i := 193) rfl)) rfl
theorem lc_X10_taker : Cond.code yX10_taker cX10_taker 4 (Option.some FieldType.int) ∈ wsU := mU (t3m (List.mem_of_getElem? (i := 194) rfl)) rfl
theorem lm_L_30 : Cond.methodLink RL 30 yX10_play ∈ wsU := mU (t3m (List.mem_of_getElem? (i := 195) rfl)) rfl
theorem li_X10_play : Cond.instanceMethod yX10_play ∈ wsU := mU (t3m (List.mem_of_getElem? (i := 196) rfl)) rfl
theorem lv_X10_play : Cond.selects RX10 yX10_play yX10_play ∈ wsU := mU (t3m (List.mem_of_getElem? (i := 197) rfl)) rfl
theorem lc_X10_play : Cond.code yX10_play cX10_play 3 (Option.some FieldType.int) ∈ wsU := mU (t3m (List.mem_of_getElem? (i := 198) rfl)) rfl
theorem lm_X10_119 : Cond.methodLink RX10 119 yX10_bestBid ∈ wsU := mU (t3m (List.mem_of_getElem? (i := 199) rfl)) rfl
theorem li_X10_bestBid : Cond.instanceMethod yX10_bestBid ∈ wsU := mU (t3m (List.mem_of_getElem? (i := 200) rfl)) rfl
theorem lv_X10_bestBid : Cond.selects RX10 yX10_bestBid yX10_bestBid ∈ wsU := mU (t3m (List.mem_of_getElem? (i := 201) rfl)) rfl
theorem lc_X10_bestBid : Cond.code yX10_bestBid cX10_bestBid 8 (Option.some FieldType.int) ∈ wsU := mU (t3m (List.mem_of_getElem? (i := 202) rfl)) rfl
theorem lm_X10_86 : Cond.methodLink RX10 86 yX10_knows ∈ wsU := mU (t3m (List.mem_of_getElem? (i := 203) rfl)) rfl
theorem li_X10_knows : Cond.instanceMethod yX10_knows ∈ wsU := mU (t3m (List.mem_of_getElem? (i := 205) rfl)) rfl
theorem lc_X10_knows : Cond.code yX10_knows cX10_knows 6 (Option.none : Option FieldType) ∈ wsU := mU (t3m (List.mem_of_getElem? (i := 206) rfl)) rfl
theorem lm_X10_82 : Cond.methodLink RX10 82 yX10_worksOutAll ∈ wsU := mU (t3m (List.mem_of_getElem? (i := 207) rfl)) rfl
theorem li_X10_worksOutAll : Cond.instanceMethod yX10_worksOutAll ∈ wsU := mU (t3m (List.mem_of_getElem? (i := 209) rfl)) rfl
theorem lc_X10_worksOutAll : Cond.code yX10_worksOutAll cX10_worksOutAll 5 (Option.none : Option FieldType) ∈ wsU := mU (t3m (List.mem_of_getElem? (i := 210) rfl)) rfl
theorem lm_X10_65 : Cond.methodLink RX10 65 yX10_lowest ∈ wsU := mU (t3m (List.mem_of_getElem? (i := 211) rfl)) rfl
theorem li_X10_lowest : Cond.instanceMethod yX10_lowest ∈ wsU := mU (t3m (List.mem_of_getElem? (i := 213) rfl)) rfl
theorem lc_X10_lowest : Cond.code yX10_lowest cX10_lowest 1 (Option.some FieldType.int) ∈ wsU := mU (t3m (List.mem_of_getElem? (i := 214) rfl)) rfl
theorem lm_X10_69 : Cond.methodLink RX10 69 yX10_worksOut ∈ wsU := mU (t3m (List.mem_of_getElem? (i := 215) rfl)) rfl
theorem li_X10_worksOut : Cond.instanceMethod yX10_worksOut ∈ wsU := mU (t3m (List.mem_of_getElem? (i := 217) rfl)) rfl
theorem lc_X10_worksOut : Cond.code yX10_worksOut cX10_worksOut 9 (Option.none : Option FieldType) ∈ wsU := mU (t3m (List.mem_of_getElem? (i := 218) rfl)) rfl
theorem lm_X10_53 : Cond.methodLink RX10 53 yX10_at ∈ wsU := mU (t3m (List.mem_of_getElem? (i := 219) rfl)) rfl
theorem ls_X10_at : Cond.static yX10_at ∈ wsU := mU (t3m (List.mem_of_getElem? (i := 220) rfl)) rfl
theorem lc_X10_at : Cond.code yX10_at cX10_at 6 (Option.some FieldType.int) ∈ wsU := mU (t3m (List.mem_of_getElem? (i := 221) rfl)) rfl
theorem lm_X10_61 : Cond.methodLink RX10 61 yX10_canForce ∈ wsU := mU (t3m (List.mem_of_getElem? (i := 222) rfl)) rfl
theorem li_X10_canForce : Cond.instanceMethod yX10_canForce ∈ wsU := mU (t3m (List.mem_of_getElem? (i := 224) rfl)) rfl
theorem lc_X10_canForce : Cond.code yX10_canForce cX10_canForce 16 (Option.some FieldType.boolean) ∈ wsU := mU (t3m (List.mem_of_getElem? (i := 225) rfl)) rfl
theorem lm_X10_57 : Cond.methodLink RX10 57 yX10_behind ∈ wsU := mU (t3m (List.mem_of_getElem? (i := 226) rfl)) rfl
theorem li_X10_behind : Cond.instanceMethod yX10_behind ∈ wsU := mU (t3m (List.mem_of_getElem? (i := 228) rfl)) rfl
theorem lc_X10_behind : Cond.code yX10_behind cX10_behind 13 (Option.some FieldType.int) ∈ wsU := mU (t3m (List.mem_of_getElem? (i := 229) rfl)) rfl
theorem lm_X10_143 : Cond.methodLink RX10 143 yX10_worstBehind ∈ wsU := mU (t3m (List.mem_of_getElem? (i := 230) rfl)) rfl
theorem li_X10_worstBehind : Cond.instanceMethod yX10_worstBehind ∈ wsU := mU (t3m (List.mem_of_getElem? (i := 232) rfl)) rfl
theorem lc_X10_worstBehind : Cond.code yX10_worstBehind cX10_worstBehind 5 (Option.some FieldType.int) ∈ wsU := mU (t3m (List.mem_of_getElem? (i := 233) rfl)) rfl
theorem lm_X10_140 : Cond.methodLink RX10 140 yX10_timeBehind ∈ wsU := mU (t3m (List.mem_of_getElem? (i := 234) rfl)) rfl
theorem li_X10_timeBehind : Cond.instanceMethod yX10_timeBehind ∈ wsU := mU (t3m (List.mem_of_getElem? (i := 236) rfl)) rfl
theorem lc_X10_timeBehind : Cond.code yX10_timeBehind cX10_timeBehind 5 (Option.some FieldType.int) ∈ wsU := mU (t3m (List.mem_of_getElem? (i := 237) rfl)) rfl
theorem lm_X10_146 : Cond.methodLink RX10 146 yX10_othersBehind ∈ wsU := mU (t3m (List.mem_of_getElem? (i := 238) rfl)) rfl
theorem li_X10_othersBehind : Cond.instanceMethod yX10_othersBehind ∈ wsU := mU (t4m (List.mem_of_getElem? (i := 0) rfl)) rfl
theorem lc_X10_othersBehind : Cond.code yX10_othersBehind cX10_othersBehind 5 (Option.some FieldType.int) ∈ wsU := mU (t4m (List.mem_of_getElem? (i := 1) rfl)) rfl
theorem lm_X10_122 : Cond.methodLink RX10 122 yX10_answerTo ∈ wsU := mU (t4m (List.mem_of_getElem? (i := 2) rfl)) rfl
theorem li_X10_answerTo : Cond.instanceMethod yX10_answerTo ∈ wsU := mU (t4m (List.mem_of_getElem? (i := 4) rfl)) rfl
theorem lc_X10_answerTo : Cond.code yX10_answerTo cX10_answerTo 9 (Option.some FieldType.int) ∈ wsU := mU (t4m (List.mem_of_getElem? (i := 5) rfl)) rfl
theorem lm_L_38 : Cond.methodLink RL 38 yX10_player ∈ wsU := mU (t4m (List.mem_of_getElem? (i := 6) rfl)) rfl
theorem li_X10_player : Cond.instanceMethod yX10_player ∈ wsU := mU (t4m (List.mem_of_getElem? (i := 7) rfl)) rfl
theorem lv_X10_player : Cond.selects RX10 yX10_player yX10_player ∈ wsU := mU (t4m (List.mem_of_getElem? (i := 8) rfl)) rfl
theorem lc_X10_player : Cond.code yX10_player cX10_player 3 (Option.some FieldType.int) ∈ wsU := mU (t4m (List.mem_of_getElem? (i := 9) rfl)) rfl
theorem lm_X10_125 : Cond.methodLink RX10 125 yX10_isPlayer ∈ wsU := mU (t4m (List.mem_of_getElem? (i := 10) rfl)) rfl
theorem ls_X10_isPlayer : Cond.static yX10_isPlayer ∈ wsU := mU (t4m (List.mem_of_getElem? (i := 11) rfl)) rfl
theorem lc_X10_isPlayer : Cond.code yX10_isPlayer cX10_isPlayer 1 (Option.some FieldType.boolean) ∈ wsU := mU (t4m (List.mem_of_getElem? (i := 12) rfl)) rfl
theorem lm_X10_129 : Cond.methodLink RX10 129 yX10_timeOf ∈ wsU := mU (t4m (List.mem_of_getElem? (i := 13) rfl)) rfl
theorem li_X10_timeOf : Cond.instanceMethod yX10_timeOf ∈ wsU := mU (t4m (List.mem_of_getElem? (i := 15) rfl)) rfl
theorem lc_X10_timeOf : Cond.code yX10_timeOf cX10_timeOf 2 (Option.some FieldType.int) ∈ wsU := mU (t4m (List.mem_of_getElem? (i := 16) rfl)) rfl
theorem lm_X10_90 : Cond.methodLink RX10 90 yX10_timeWith ∈ wsU := mU (t4m (List.mem_of_getElem? (i := 17) rfl)) rfl
theorem li_X10_timeWith : Cond.instanceMethod yX10_timeWith ∈ wsU := mU (t4m (List.mem_of_getElem? (i := 19) rfl)) rfl
theorem lc_X10_timeWith : Cond.code yX10_timeWith cX10_timeWith 4 (Option.some FieldType.int) ∈ wsU := mU (t4m (List.mem_of_getElem? (i := 20) rfl)) rfl
theorem lm_L_43 : Cond.methodLink RL 43 yX10_count ∈ wsU := mU (t4m (List.mem_of_getElem? (i := 21) rfl)) rfl
theorem li_X10_count : Cond.instanceMethod yX10_count ∈ wsU := mU (t4m (List.mem_of_getElem? (i := 22) rfl)) rfl
theorem lv_X10_count : Cond.selects RX10 yX10_count yX10_count ∈ wsU := mU (t4m (List.mem_of_getElem? (i := 23) rfl)) rfl
theorem lc_X10_count : Cond.code yX10_count cX10_count 2 (Option.some FieldType.int) ∈ wsU := mU (t4m (List.mem_of_getElem? (i := 24) rfl)) rfl
theorem lm_L_47 : Cond.methodLink RL 47 yX10_forced ∈ wsU := mU (t4m (List.mem_of_getElem? (i := 25) rfl)) rfl
theorem li_X10_forced : Cond.instanceMethod yX10_forced ∈ wsU := mU (t4m (List.mem_of_getElem? (i := 26) rfl)) rfl
theorem lv_X10_forced : Cond.selects RX10 yX10_forced yX10_forced ∈ wsU := mU (t4m (List.mem_of_getElem? (i := 27) rfl)) rfl
theorem lc_X10_forced : Cond.code yX10_forced cX10_forced 3 (Option.some FieldType.int) ∈ wsU := mU (t4m (List.mem_of_getElem? (i := 28) rfl)) rfl
theorem lq_X10_135 : Cond.constantLong RX10 135 (8 : Int64) ∈ wsU := mU (t4m (List.mem_of_getElem? (i := 29) rfl)) rfl
theorem lm_L_51 : Cond.methodLink RL 51 yX10_ahead ∈ wsU := mU (t4m (List.mem_of_getElem? (i := 30) rfl)) rfl
theorem li_X10_ahead : Cond.instanceMethod yX10_ahead ∈ wsU := mU (t4m (List.mem_of_getElem? (i := 31) rfl)) rfl
theorem lv_X10_ahead : Cond.selects RX10 yX10_ahead yX10_ahead ∈ wsU := mU (t4m (List.mem_of_getElem? (i := 32) rfl)) rfl
theorem lc_X10_ahead : Cond.code yX10_ahead cX10_ahead 3 (Option.some FieldType.int) ∈ wsU := mU (t4m (List.mem_of_getElem? (i := 33) rfl)) rfl
theorem lm_X10_137 : Cond.methodLink RX10 137 yX10_forced ∈ wsU := mU (t4m (List.mem_of_getElem? (i := 34) rfl)) rfl
theorem lm_L_55 : Cond.methodLink RL 55 yX10_bestBid ∈ wsU := mU (t4m (List.mem_of_getElem? (i := 35) rfl)) rfl
theorem lm_L_59 : Cond.methodLink RL 59 yX10_bestAnswer ∈ wsU := mU (t4m (List.mem_of_getElem? (i := 36) rfl)) rfl
theorem li_X10_bestAnswer : Cond.instanceMethod yX10_bestAnswer ∈ wsU := mU (t4m (List.mem_of_getElem? (i := 37) rfl)) rfl
theorem lv_X10_bestAnswer : Cond.selects RX10 yX10_bestAnswer yX10_bestAnswer ∈ wsU := mU (t4m (List.mem_of_getElem? (i := 38) rfl)) rfl
theorem lc_X10_bestAnswer : Cond.code yX10_bestAnswer cX10_bestAnswer 2 (Option.some FieldType.int) ∈ wsU := mU (t4m (List.mem_of_getElem? (i := 39) rfl)) rfl
theorem lm_L_63 : Cond.methodLink RL 63 yX10_keeps ∈ wsU := mU (t4m (List.mem_of_getElem? (i := 40) rfl)) rfl
theorem li_X10_keeps : Cond.instanceMethod yX10_keeps ∈ wsU := mU (t4m (List.mem_of_getElem? (i := 41) rfl)) rfl
theorem lv_X10_keeps : Cond.selects RX10 yX10_keeps yX10_keeps ∈ wsU := mU (t4m (List.mem_of_getElem? (i := 42) rfl)) rfl
theorem lc_X10_keeps : Cond.code yX10_keeps cX10_keeps 3 (Option.some FieldType.int) ∈ wsU := mU (t4m (List.mem_of_getElem? (i := 43) rfl)) rfl
theorem lm_L_67 : Cond.methodLink RL 67 yX10_leastHours ∈ wsU := mU (t4m (List.mem_of_getElem? (i := 44) rfl)) rfl
theorem li_X10_leastHours : Cond.instanceMethod yX10_leastHours ∈ wsU := mU (t4m (List.mem_of_getElem? (i := 45) rfl)) rfl
theorem lv_X10_leastHours : Cond.selects RX10 yX10_leastHours yX10_leastHours ∈ wsU := mU (t4m (List.mem_of_getElem? (i := 46) rfl)) rfl
theorem lc_X10_leastHours : Cond.code yX10_leastHours cX10_leastHours 5 (Option.some FieldType.int) ∈ wsU := mU (t4m (List.mem_of_getElem? (i := 47) rfl)) rfl
theorem lm_L_74 : Cond.methodLink RL 74 yX10_put ∈ wsU := mU (t4m (List.mem_of_getElem? (i := 48) rfl)) rfl
theorem li_X10_put : Cond.instanceMethod yX10_put ∈ wsU := mU (t4m (List.mem_of_getElem? (i := 49) rfl)) rfl
theorem lv_X10_put : Cond.selects RX10 yX10_put yX10_put ∈ wsU := mU (t4m (List.mem_of_getElem? (i := 50) rfl)) rfl
theorem lc_X10_put : Cond.code yX10_put cX10_put 5 (Option.some FieldType.int) ∈ wsU := mU (t4m (List.mem_of_getElem? (i := 51) rfl)) rfl
theorem lm_X10_155 : Cond.methodLink RX10 155 yX10_charactersOf ∈ wsU := mU (t4m (List.mem_of_getElem? (i := 52) rfl)) rfl
theorem ls_X10_charactersOf : Cond.static yX10_charactersOf ∈ wsU := mU (t4m (List.mem_of_getElem? (i := 53) rfl)) rfl
theorem lc_X10_charactersOf : Cond.code yX10_charactersOf cX10_charactersOf 5 (Option.some FieldType.int) ∈ wsU := mU (t4m (List.mem_of_getElem? (i := 54) rfl)) rfl
theorem lq_X10_149 : Cond.constantLong RX10 149 (255 : Int64) ∈ wsU := mU (t4m (List.mem_of_getElem? (i := 55) rfl)) rfl
theorem lq_X10_151 : Cond.constantLong RX10 151 (33 : Int64) ∈ wsU := mU (t4m (List.mem_of_getElem? (i := 56) rfl)) rfl
theorem lq_X10_153 : Cond.constantLong RX10 153 (126 : Int64) ∈ wsU := mU (t4m (List.mem_of_getElem? (i := 57) rfl)) rfl
theorem lm_L_78 : Cond.methodLink RL 78 yX10_wipe ∈ wsU := mU (t4m (List.mem_of_getElem? (i := 58) rfl)) rfl
theorem li_X10_wipe : Cond.instanceMethod yX10_wipe ∈ wsU := mU (t4m (List.mem_of_getElem? (i := 59) rfl)) rfl
theorem lv_X10_wipe : Cond.selects RX10 yX10_wipe yX10_wipe ∈ wsU := mU (t4m (List.mem_of_getElem? (i := 60) rfl)) rfl
theorem lc_X10_wipe : Cond.code yX10_wipe cX10_wipe 2 (Option.some FieldType.int) ∈ wsU := mU (t4m (List.mem_of_getElem? (i := 61) rfl)) rfl
theorem lm_L_82 : Cond.methodLink RL 82 yX10_fault ∈ wsU := mU (t4m (List.mem_of_getElem? (i := 62) rfl)) rfl
theorem li_X10_fault : Cond.instanceMethod yX10_fault ∈ wsU := mU (t4m (List.mem_of_getElem? (i := 63) rfl)) rfl
theorem lv_X10_fault : Cond.selects RX10 yX10_fault yX10_fault ∈ wsU := mU (t4m (List.mem_of_getElem? (i := 64) rfl)) rfl
theorem lc_X10_fault : Cond.code yX10_fault cX10_fault 2 (Option.some FieldType.int) ∈ wsU := mU (t4m (List.mem_of_getElem? (i := 65) rfl)) rfl
theorem lm_X10_177 : Cond.methodLink RX10 177 yX10_readsRound ∈ wsU := mU (t4m (List.mem_of_getElem? (i := 66) rfl)) rfl
theorem li_X10_readsRound : Cond.instanceMethod yX10_readsRound ∈ wsU := mU (t4m (List.mem_of_getElem? (i := 68) rfl)) rfl
theorem lc_X10_readsRound : Cond.code yX10_readsRound cX10_readsRound 1 (Option.some FieldType.boolean) ∈ wsU := mU (t4m (List.mem_of_getElem? (i := 69) rfl)) rfl
theorem lm_X10_168 : Cond.methodLink RX10 168 yX10_readsBid ∈ wsU := mU (t4m (List.mem_of_getElem? (i := 70) rfl)) rfl
theorem li_X10_readsBid : Cond.instanceMethod yX10_readsBid ∈ wsU := mU (t4m (List.mem_of_getElem? (i := 72) rfl)) rfl
theorem lc_X10_readsBid : Cond.code yX10_readsBid cX10_readsBid 1 (Option.some FieldType.boolean) ∈ wsU := mU (t4m (List.mem_of_getElem? (i := 73) rfl)) rfl
theorem lm_X10_162 : Cond.methodLink RX10 162 yX10_isHere ∈ wsU := mU (t4m (List.mem_of_getElem? (i := 74) rfl)) rfl
theorem li_X10_isHere : Cond.instanceMethod yX10_isHere ∈ wsU := mU (t4m (List.mem_of_getElem? (i := 76) rfl)) rfl
theorem lc_X10_isHere : Cond.code yX10_isHere cX10_isHere 3 (Option.some FieldType.boolean) ∈ wsU := mU (t4m (List.mem_of_getElem? (i := 77) rfl)) rfl
theorem lm_X10_174 : Cond.methodLink RX10 174 yX10_takesOne ∈ wsU := mU (t4m (List.mem_of_getElem? (i := 78) rfl)) rfl
theorem li_X10_takesOne : Cond.instanceMethod yX10_takesOne ∈ wsU := mU (t4m (List.mem_of_getElem? (i := 80) rfl)) rfl
theorem lc_X10_takesOne : Cond.code yX10_takesOne cX10_takesOne 3 (Option.some FieldType.boolean) ∈ wsU := mU (t4m (List.mem_of_getElem? (i := 81) rfl)) rfl
theorem lm_L_34 : Cond.methodLink RL 34 yX10_run ∈ wsU := mU (t4m (List.mem_of_getElem? (i := 82) rfl)) rfl
theorem li_X10_run : Cond.instanceMethod yX10_run ∈ wsU := mU (t4m (List.mem_of_getElem? (i := 83) rfl)) rfl
theorem lv_X10_run : Cond.selects RX10 yX10_run yX10_run ∈ wsU := mU (t4m (List.mem_of_getElem? (i := 84) rfl)) rfl
theorem lc_X10_run : Cond.code yX10_run cX10_run 3 (Option.some FieldType.int) ∈ wsU := mU (t4m (List.mem_of_getElem? (i := 85) rfl)) rfl
theorem lm_X10_180 : Cond.methodLink RX10 180 yX10_fault ∈ wsU := mU (t4m (List.mem_of_getElem? (i := 86) rfl)) rfl
theorem lm_L_86 : Cond.methodLink RL 86 yX10_undo ∈ wsU := mU (t4m (List.mem_of_getElem? (i := 87) rfl)) rfl
theorem li_X10_undo : Cond.instanceMethod yX10_undo ∈ wsU := mU (t4m (List.mem_of_getElem? (i := 88) rfl)) rfl
theorem lv_X10_undo : Cond.selects RX10 yX10_undo yX10_undo ∈ wsU := mU (t4m (List.mem_of_getElem? (i := 89) rfl)) rfl
theorem lc_X10_undo : Cond.code yX10_undo cX10_undo 2 (Option.some FieldType.int) ∈ wsU := mU (t4m (List.mem_of_getElem? (i := 90) rfl)) rfl
theorem lm_L_90 : Cond.methodLink RL 90 yX10_save ∈ wsU := mU (t4m (List.mem_of_getElem? (i := 91) rfl)) rfl
theorem li_X10_save : Cond.instanceMethod yX10_save ∈ wsU := mU (t4m (List.mem_of_getElem? (i := 92) rfl)) rfl
theorem lv_X10_save : Cond.selects RX10 yX10_save yX10_save ∈ wsU := mU (t4m (List.mem_of_getElem? (i := 93) rfl)) rfl
theorem lc_X10_save : Cond.code yX10_save cX10_save 3 (Option.some FieldType.int) ∈ wsU := mU (t4m (List.mem_of_getElem? (i := 94) rfl)) rfl
theorem lm_L_94 : Cond.methodLink RL 94 yX10_restore ∈ wsU := mU (t4m (List.mem_of_getElem? (i := 95) rfl)) rfl
theorem li_X10_restore : Cond.instanceMethod yX10_restore ∈ wsU := mU (t4m (List.mem_of_getElem? (i := 96) rfl)) rfl
theorem lv_X10_restore : Cond.selects RX10 yX10_restore yX10_restore ∈ wsU := mU (t4m (List.mem_of_getElem? (i := 97) rfl)) rfl
theorem lc_X10_restore : Cond.code yX10_restore cX10_restore 3 (Option.some FieldType.int) ∈ wsU := mU (t4m (List.mem_of_getElem? (i := 98) rfl)) rfl
theorem lq_L_68 : Cond.constantLong RL 68 (4294967295 : Int64) ∈ wsU := mU (t4m (List.mem_of_getElem? (i := 99) rfl)) rfl
theorem lv_X3_dropOldest : Cond.selects RX3 yX3_dropOldest yX3_dropOldest ∈ wsU := mU (List.mem_append_left _ (List.mem_map.mpr ⟨(yX3_dropOldest, 2), List.mem_append_left _ (List.mem_of_getElem? (i := 0) rfl), rfl⟩)) rfl
theorem lv_X9_timesNow : Cond.selects RX9 yX9_timesNow yX9_timesNow ∈ wsU := mU (List.mem_append_left _ (List.mem_map.mpr ⟨(yX9_timesNow, 8), List.mem_append_left _ (List.mem_of_getElem? (i := 1) rfl), rfl⟩)) rfl
theorem lv_X8_learnRounds : Cond.selects RX8 yX8_learnRounds yX8_learnRounds ∈ wsU := mU (List.mem_append_left _ (List.mem_map.mpr ⟨(yX8_learnRounds, 7), List.mem_append_left _ (List.mem_of_getElem? (i := 2) rfl), rfl⟩)) rfl
theorem lv_X8_bidForces : Cond.selects RX8 yX8_bidForces yX8_bidForces ∈ wsU := mU (List.mem_append_left _ (List.mem_map.mpr ⟨(yX8_bidForces, 7), List.mem_append_left _ (List.mem_of_getElem? (i := 3) rfl), rfl⟩)) rfl
theorem lv_X8_lost : Cond.selects RX8 yX8_lost yX8_lost ∈ wsU := mU (List.mem_append_left _ (List.mem_map.mpr ⟨(yX8_lost, 7), List.mem_append_left _ (List.mem_of_getElem? (i := 4) rfl), rfl⟩)) rfl
theorem lv_X8_neverTakes : Cond.selects RX8 yX8_neverTakes yX8_neverTakes ∈ wsU := mU (List.mem_append_left _ (List.mem_map.mpr ⟨(yX8_neverTakes, 7), List.mem_append_left _ (List.mem_of_getElem? (i := 5) rfl), rfl⟩)) rfl
theorem lv_X8_taken : Cond.selects RX8 yX8_taken yX8_taken ∈ wsU := mU (List.mem_append_left _ (List.mem_map.mpr ⟨(yX8_taken, 7), List.mem_append_left _ (List.mem_of_getElem? (i := 6) rfl), rfl⟩)) rfl
theorem lv_X8_answerForces : Cond.selects RX8 yX8_answerForces yX8_answerForces ∈ wsU := mU (List.mem_append_left _ (List.mem_map.mpr ⟨(yX8_answerForces, 7), List.mem_append_left _ (List.mem_of_getElem? (i := 7) rfl), rfl⟩)) rfl
theorem lv_X0_longestOwn : Cond.selects RX0 yX0_longestOwn yX0_longestOwn ∈ wsU := mU (List.mem_append_left _ (List.mem_map.mpr ⟨(yX0_longestOwn, 1), List.mem_append_left _ (List.mem_of_getElem? (i := 8) rfl), rfl⟩)) rfl
theorem lv_X0_timeBehind : Cond.selects RX0 yX0_timeBehind yX0_timeBehind ∈ wsU := mU (List.mem_append_left _ (List.mem_map.mpr ⟨(yX0_timeBehind, 1), List.mem_append_left _ (List.mem_of_getElem? (i := 9) rfl), rfl⟩)) rfl
theorem lv_X0_findDelay : Cond.selects RX0 yX0_findDelay yX0_findDelay ∈ wsU := mU (List.mem_append_left _ (List.mem_map.mpr ⟨(yX0_findDelay, 1), List.mem_append_left _ (List.mem_of_getElem? (i := 10) rfl), rfl⟩)) rfl
theorem lv_X0_leastOther : Cond.selects RX0 yX0_leastOther yX0_leastOther ∈ wsU := mU (List.mem_append_left _ (List.mem_map.mpr ⟨(yX0_leastOther, 1), List.mem_append_left _ (List.mem_of_getElem? (i := 11) rfl), rfl⟩)) rfl
theorem lv_X9_playPad : Cond.selects RX9 yX9_playPad yX9_playPad ∈ wsU := mU (List.mem_append_left _ (List.mem_map.mpr ⟨(yX9_playPad, 8), List.mem_append_left _ (List.mem_of_getElem? (i := 12) rfl), rfl⟩)) rfl
theorem lv_X9_timeWith : Cond.selects RX9 yX9_timeWith yX9_timeWith ∈ wsU := mU (List.mem_append_left _ (List.mem_map.mpr ⟨(yX9_timeWith, 8), List.mem_append_left _ (List.mem_of_getElem? (i := 13) rfl), rfl⟩)) rfl
theorem lv_X1_seesWin : Cond.selects RX1 yX1_seesWin yX1_seesWin ∈ wsU := mU (List.mem_append_left _ (List.mem_map.mpr ⟨(yX1_seesWin, 1), List.mem_append_left _ (List.mem_of_getElem? (i := 14) rfl), rfl⟩)) rfl
theorem lv_X1_seesBid : Cond.selects RX1 yX1_seesBid yX1_seesBid ∈ wsU := mU (List.mem_append_left _ (List.mem_map.mpr ⟨(yX1_seesBid, 1), List.mem_append_left _ (List.mem_of_getElem? (i := 15) rfl), rfl⟩)) rfl
theorem lv_X1_standsAllAnswers : Cond.selects RX1 yX1_standsAllAnswers yX1_standsAllAnswers ∈ wsU := mU (List.mem_append_left _ (List.mem_map.mpr ⟨(yX1_standsAllAnswers, 1), List.mem_append_right _ (List.mem_append_left _ (List.mem_of_getElem? (i := 0) rfl)), rfl⟩)) rfl
theorem lv_X1_canTake : Cond.selects RX1 yX1_canTake yX1_canTake ∈ wsU := mU (List.mem_append_left _ (List.mem_map.mpr ⟨(yX1_canTake, 1), List.mem_append_right _ (List.mem_append_left _ (List.mem_of_getElem? (i := 1) rfl)), rfl⟩)) rfl
theorem lv_X1_seesTaken : Cond.selects RX1 yX1_seesTaken yX1_seesTaken ∈ wsU := mU (List.mem_append_left _ (List.mem_map.mpr ⟨(yX1_seesTaken, 1), List.mem_append_right _ (List.mem_append_left _ (List.mem_of_getElem? (i := 2) rfl)), rfl⟩)) rfl
theorem lv_X1_leastTaking : Cond.selects RX1 yX1_leastTaking yX1_leastTaking ∈ wsU := mU (List.mem_append_left _ (List.mem_map.mpr ⟨(yX1_leastTaking, 1), List.mem_append_right _ (List.mem_append_left _ (List.mem_of_getElem? (i := 3) rfl)), rfl⟩)) rfl
theorem lv_X1_seesLost : Cond.selects RX1 yX1_seesLost yX1_seesLost ∈ wsU := mU (List.mem_append_left _ (List.mem_map.mpr ⟨(yX1_seesLost, 1), List.mem_append_right _ (List.mem_append_left _ (List.mem_of_getElem? (i := 4) rfl)), rfl⟩)) rfl
theorem lv_X1_seesAnswers : Cond.selects RX1 yX1_seesAnswers yX1_seesAnswers ∈ wsU := mU (List.mem_append_left _ (List.mem_map.mpr ⟨(yX1_seesAnswers, 1), List.mem_append_right _ (List.mem_append_left _ (List.mem_of_getElem? (i := 5) rfl)), rfl⟩)) rfl
theorem lv_X1_hasAnswer : Cond.selects RX1 yX1_hasAnswer yX1_hasAnswer ∈ wsU := mU (List.mem_append_left _ (List.mem_map.mpr ⟨(yX1_hasAnswer, 1), List.mem_append_right _ (List.mem_append_left _ (List.mem_of_getElem? (i := 6) rfl)), rfl⟩)) rfl
theorem lv_X9_slotOf : Cond.selects RX9 yX9_slotOf yX9_slotOf ∈ wsU := mU (List.mem_append_left _ (List.mem_map.mpr ⟨(yX9_slotOf, 8), List.mem_append_right _ (List.mem_append_left _ (List.mem_of_getElem? (i := 7) rfl)), rfl⟩)) rfl
theorem lv_X10_newGame : Cond.selects RX10 yX10_newGame yX10_newGame ∈ wsU := mU (List.mem_append_left _ (List.mem_map.mpr ⟨(yX10_newGame, 15), List.mem_append_right _ (List.mem_append_left _ (List.mem_of_getElem? (i := 8) rfl)), rfl⟩)) rfl
theorem lv_X10_changes : Cond.selects RX10 yX10_changes yX10_changes ∈ wsU := mU (List.mem_append_left _ (List.mem_map.mpr ⟨(yX10_changes, 15), List.mem_append_right _ (List.mem_append_left _ (List.mem_of_getElem? (i := 9) rfl)), rfl⟩)) rfl
theorem lv_X10_canPlay : Cond.selects RX10 yX10_canPlay yX10_canPlay ∈ wsU := mU (List.mem_append_left _ (List.mem_map.mpr ⟨(yX10_canPlay, 15), List.mem_append_right _ (List.mem_append_left _ (List.mem_of_getElem? (i := 10) rfl)), rfl⟩)) rfl
theorem lv_X10_isOver : Cond.selects RX10 yX10_isOver yX10_isOver ∈ wsU := mU (List.mem_append_left _ (List.mem_map.mpr ⟨(yX10_isOver, 15), List.mem_append_right _ (List.mem_append_left _ (List.mem_of_getElem? (i := 11) rfl)), rfl⟩)) rfl
theorem lv_X10_winnerAt : Cond.selects RX10 yX10_winnerAt yX10_winnerAt ∈ wsU := mU (List.mem_append_left _ (List.mem_map.mpr ⟨(yX10_winnerAt, 15), List.mem_append_right _ (List.mem_append_left _ (List.mem_of_getElem? (i := 12) rfl)), rfl⟩)) rfl
theorem lv_X10_most : Cond.selects RX10 yX10_most yX10_most ∈ wsU := mU (List.mem_append_left _ (List.mem_map.mpr ⟨(yX10_most, 15), List.mem_append_right _ (List.mem_append_left _ (List.mem_of_getElem? (i := 13) rfl)), rfl⟩)) rfl
theorem lv_X10_plays : Cond.selects RX10 yX10_plays yX10_plays ∈ wsU := mU (List.mem_append_left _ (List.mem_map.mpr ⟨(yX10_plays, 15), List.mem_append_right _ (List.mem_append_left _ (List.mem_of_getElem? (i := 14) rfl)), rfl⟩)) rfl
theorem lv_X10_taker : Cond.selects RX10 yX10_taker yX10_taker ∈ wsU := mU (List.mem_append_left _ (List.mem_map.mpr ⟨(yX10_taker, 15), List.mem_append_right _ (List.mem_append_left _ (List.mem_of_getElem? (i := 15) rfl)), rfl⟩)) rfl
theorem lv_X10_knows : Cond.selects RX10 yX10_knows yX10_knows ∈ wsU := mU (List.mem_append_left _ (List.mem_map.mpr ⟨(yX10_knows, 15), List.mem_append_right _ (List.mem_append_right _ (List.mem_of_getElem? (i := 0) rfl)), rfl⟩)) rfl
theorem lv_X10_worksOutAll : Cond.selects RX10 yX10_worksOutAll yX10_worksOutAll ∈ wsU := mU (List.mem_append_left _ (List.mem_map.mpr ⟨(yX10_worksOutAll, 15), List.mem_append_right _ (List.mem_append_right _ (List.mem_of_getElem? (i := 1) rfl)), rfl⟩)) rfl
theorem lv_X10_lowest : Cond.selects RX10 yX10_lowest yX10_lowest ∈ wsU := mU (List.mem_append_left _ (List.mem_map.mpr ⟨(yX10_lowest, 15), List.mem_append_right _ (List.mem_append_right _ (List.mem_of_getElem? (i := 2) rfl)), rfl⟩)) rfl
theorem lv_X10_worksOut : Cond.selects RX10 yX10_worksOut yX10_worksOut ∈ wsU := mU (List.mem_append_left _ (List.mem_map.mpr ⟨(yX10_worksOut, 15), List.mem_append_right _ (List.mem_append_right _ (List.mem_of_getElem? (i := 3) rfl)), rfl⟩)) rfl
theorem lv_X10_canForce : Cond.selects RX10 yX10_canForce yX10_canForce ∈ wsU := mU (List.mem_append_left _ (List.mem_map.mpr ⟨(yX10_canForce, 15), List.mem_append_right _ (List.mem_append_right _ (List.mem_of_getElem? (i := 4) rfl)), rfl⟩)) rfl
theorem lv_X10_behind : Cond.selects RX10 yX10_behind yX10_behind ∈ wsU := mU (List.mem_append_left _ (List.mem_map.mpr ⟨(yX10_behind, 15), List.mem_append_right _ (List.mem_append_right _ (List.mem_of_getElem? (i := 5) rfl)), rfl⟩)) rfl
theorem lv_X10_worstBehind : Cond.selects RX10 yX10_worstBehind yX10_worstBehind ∈ wsU := mU (List.mem_append_left _ (List.mem_map.mpr ⟨(yX10_worstBehind, 15), List.mem_append_right _ (List.mem_append_right _ (List.mem_of_getElem? (i := 6) rfl)), rfl⟩)) rfl
theorem lv_X10_timeBehind : Cond.selects RX10 yX10_timeBehind yX10_timeBehind ∈ wsU := mU (List.mem_append_left _ (List.mem_map.mpr ⟨(yX10_timeBehind, 15), List.mem_append_right _ (List.mem_append_right _ (List.mem_of_getElem? (i := 7) rfl)), rfl⟩)) rfl
theorem lv_X10_othersBehind : Cond.selects RX10 yX10_othersBehind yX10_othersBehind ∈ wsU := mU (List.mem_append_left _ (List.mem_map.mpr ⟨(yX10_othersBehind, 15), List.mem_append_right _ (List.mem_append_right _ (List.mem_of_getElem? (i := 8) rfl)), rfl⟩)) rfl
theorem lv_X10_answerTo : Cond.selects RX10 yX10_answerTo yX10_answerTo ∈ wsU := mU (List.mem_append_left _ (List.mem_map.mpr ⟨(yX10_answerTo, 15), List.mem_append_right _ (List.mem_append_right _ (List.mem_of_getElem? (i := 9) rfl)), rfl⟩)) rfl
theorem lv_X10_timeOf : Cond.selects RX10 yX10_timeOf yX10_timeOf ∈ wsU := mU (List.mem_append_left _ (List.mem_map.mpr ⟨(yX10_timeOf, 15), List.mem_append_right _ (List.mem_append_right _ (List.mem_of_getElem? (i := 10) rfl)), rfl⟩)) rfl
theorem lv_X10_timeWith : Cond.selects RX10 yX10_timeWith yX10_timeWith ∈ wsU := mU (List.mem_append_left _ (List.mem_map.mpr ⟨(yX10_timeWith, 15), List.mem_append_right _ (List.mem_append_right _ (List.mem_of_getElem? (i := 11) rfl)), rfl⟩)) rfl
theorem lv_X10_readsRound : Cond.selects RX10 yX10_readsRound yX10_readsRound ∈ wsU := mU (List.mem_append_left _ (List.mem_map.mpr ⟨(yX10_readsRound, 15), List.mem_append_right _ (List.mem_append_right _ (List.mem_of_getElem? (i := 12) rfl)), rfl⟩)) rfl
theorem lv_X10_readsBid : Cond.selects RX10 yX10_readsBid yX10_readsBid ∈ wsU := mU (List.mem_append_left _ (List.mem_map.mpr ⟨(yX10_readsBid, 15), List.mem_append_right _ (List.mem_append_right _ (List.mem_of_getElem? (i := 13) rfl)), rfl⟩)) rfl
theorem lv_X10_isHere : Cond.selects RX10 yX10_isHere yX10_isHere ∈ wsU := mU (List.mem_append_left _ (List.mem_map.mpr ⟨(yX10_isHere, 15), List.mem_append_right _ (List.mem_append_right _ (List.mem_of_getElem? (i := 14) rfl)), rfl⟩)) rfl
theorem lv_X10_takesOne : Cond.selects RX10 yX10_takesOne yX10_takesOne ∈ wsU := mU (List.mem_append_left _ (List.mem_map.mpr ⟨(yX10_takesOne, 15), List.mem_append_right _ (List.mem_append_right _ (List.mem_of_getElem? (i := 15) rfl)), rfl⟩)) rfl
theorem inUX0 : ∀ w ∈ u_ws RX0 TX0 1, w ∈ wsU := u_all (fun k hk => match k, hk with | 0, _ => ly_X0_game | (j + 1), h => absurd h (by omega))
theorem inUX1 : ∀ w ∈ u_ws RX1 TX1 1, w ∈ wsU := u_all (fun k hk => match k, hk with | 0, _ => ly_X1_game | (j + 1), h => absurd h (by omega))
theorem inUX2 : ∀ w ∈ u_ws RX2 TX2 10, w ∈ wsU := u_all (fun k hk => match k, hk with | 0, _ => ly_X2_end | 1, _ => ly_X2_loan | 2, _ => ly_X2_pays | 3, _ => ly_X2_tie | 4, _ => ly_X2_hand | 5, _ => ly_X2_first | 6, _ => ly_X2_rounds | 7, _ => ly_X2_clock | 8, _ => ly_X2_zero | 9, _ => ly_X2_one | (j + 10), h => absurd h (by omega))
theorem inUX3 : ∀ w ∈ u_ws RX3 TX3 2, w ∈ wsU := u_all (fun k hk => match k, hk with | 0, _ => ly_X3_states | 1, _ => ly_X3_size | (j + 2), h => absurd h (by omega))
theorem inUX4 : ∀ w ∈ u_ws RX4 TX4 1, w ∈ wsU := u_all (fun k hk => match k, hk with | 0, _ => ly_X4_tables | (j + 1), h => absurd h (by omega))
theorem inUX5 : ∀ w ∈ u_ws RX5 TX5 2, w ∈ wsU := u_all (fun k hk => match k, hk with | 0, _ => ly_X5_signs | 1, _ => ly_X5_length | (j + 2), h => absurd h (by omega))
theorem inUX6 : ∀ w ∈ u_ws RX6 TX6 5, w ∈ wsU := u_all (fun k hk => match k, hk with | 0, _ => ly_X6_began | 1, _ => ly_X6_hours | 2, _ => ly_X6_paid | 3, _ => ly_X6_took | 4, _ => ly_X6_won | (j + 5), h => absurd h (by omega))
theorem inUX7 : ∀ w ∈ u_ws RX7 TX7 2, w ∈ wsU := u_all (fun k hk => match k, hk with | 0, _ => ly_X7_saved | 1, _ => ly_X7_filled | (j + 2), h => absurd h (by omega))
theorem inUX8 : ∀ w ∈ u_ws RX8 TX8 7, w ∈ wsU := u_all (fun k hk => match k, hk with | 0, _ => ly_X8_end | 1, _ => ly_X8_tie | 2, _ => ly_X8_sumStays | 3, _ => ly_X8_top | 4, _ => ly_X8_owns | 5, _ => ly_X8_foes | 6, _ => ly_X8_times | (j + 7), h => absurd h (by omega))
theorem inUX9 : ∀ w ∈ u_ws RX9 TX9 8, w ∈ wsU := u_all (fun k hk => match k, hk with | 0, _ => ly_X9_game | 1, _ => ly_X9_history | 2, _ => ly_X9_slotZero | 3, _ => ly_X9_slotOne | 4, _ => ly_X9_pad | 5, _ => ly_X9_memory | 6, _ => ly_X9_advice | 7, _ => ly_X9_foresight | (j + 8), h => absurd h (by omega))
theorem inUX10 : ∀ w ∈ u_ws RX10 TX10 15, w ∈ wsU := u_all (fun k hk => match k, hk with | 0, _ => ly_X10_all | 1, _ => ly_X10_history | 2, _ => ly_X10_historyLong | 3, _ => ly_X10_slots | 4, _ => ly_X10_isSaved | 5, _ => ly_X10_times | 6, _ => ly_X10_isKnown | 7, _ => ly_X10_knownRules | 8, _ => ly_X10_knownSum | 9, _ => ly_X10_text | 10, _ => ly_X10_textLong | 11, _ => ly_X10_spot | 12, _ => ly_X10_number | 13, _ => ly_X10_told | 14, _ => ly_X10_read | (j + 15), h => absurd h (by omega))
theorem gv_L_13 : GoodIn wsU (wsV RL 13 RX9 yX9_set (.code yX9_set cX9_set 4 (Option.some FieldType.int) :: wsU)) := good_V lm_L_13 li_X9_set lv_X9_set ln_X9 lc_X9_set
theorem gs_X9_63 : GoodIn wsU (wsS RX9 63 yX9_isSetting (.code yX9_isSetting cX9_isSetting 1 (Option.some FieldType.boolean) :: wsU)) := good_S lm_X9_63 ls_X9_isSetting ln_X9 lc_X9_isSetting
theorem gs_X9_87 : GoodIn wsU (wsS RX9 87 yX9_isBetween (.code yX9_isBetween cX9_isBetween 3 (Option.some FieldType.boolean) :: wsU)) := good_S lm_X9_87 ls_X9_isBetween ln_X9 lc_X9_isBetween
theorem gs_X9_67 : GoodIn wsU (wsS RX9 67 yX9_leastSetting (.code yX9_leastSetting cX9_leastSetting 1 (Option.some FieldType.int) :: wsU)) := good_S lm_X9_67 ls_X9_leastSetting ln_X9 lc_X9_leastSetting
theorem gs_X9_71 : GoodIn wsU (wsS RX9 71 yX9_mostSetting (.code yX9_mostSetting cX9_mostSetting 1 (Option.some FieldType.int) :: wsU)) := good_S lm_X9_71 ls_X9_mostSetting ln_X9 lc_X9_mostSetting
theorem gv_X9_74 : GoodIn wsU (wsV RX9 74 RX2 yX2_settingOf (.code yX2_settingOf cX2_settingOf 2 (Option.some FieldType.int) :: wsU)) := good_V lm_X9_74 li_X2_settingOf lv_X2_settingOf ln_X2 lc_X2_settingOf
theorem gv_X9_77 : GoodIn wsU (wsV RX9 77 RX3 yX3_keepState (.code yX3_keepState cX3_keepState 2 (Option.none : Option FieldType) :: wsU)) := good_V lm_X9_77 li_X3_keepState lv_X3_keepState ln_X3 lc_X3_keepState
theorem gv_X3_21 : GoodIn wsU (wsV RX3 21 RX3 yX3_dropOldest (.code yX3_dropOldest cX3_dropOldest 3 (Option.none : Option FieldType) :: wsU)) := good_V lm_X3_21 li_X3_dropOldest lv_X3_dropOldest ln_X3 lc_X3_dropOldest
theorem gv_X3_25 : GoodIn wsU (wsV RX3 25 RX2 yX2_copyFrom (.code yX2_copyFrom cX2_copyFrom 2 (Option.none : Option FieldType) :: wsU)) := good_V lm_X3_25 li_X2_copyFrom lv_X2_copyFrom ln_X2 lc_X2_copyFrom
theorem gv_X2_46 : GoodIn wsU (wsV RX2 46 RX6 yX6_copyFrom (.code yX6_copyFrom cX6_copyFrom 2 (Option.none : Option FieldType) :: wsU)) := good_V lm_X2_46 li_X6_copyFrom lv_X6_copyFrom ln_X6 lc_X6_copyFrom
theorem gv_X9_80 : GoodIn wsU (wsV RX9 80 RX2 yX2_changeSetting (.code yX2_changeSetting cX2_changeSetting 3 (Option.none : Option FieldType) :: wsU)) := good_V lm_X9_80 li_X2_changeSetting lv_X2_changeSetting ln_X2 lc_X2_changeSetting
theorem gv_X9_84 : GoodIn wsU (wsV RX9 84 RX2 yX2_startAnew (.code yX2_startAnew cX2_startAnew 1 (Option.none : Option FieldType) :: wsU)) := good_V lm_X9_84 li_X2_startAnew lv_X2_startAnew ln_X2 lc_X2_startAnew
theorem gv_X2_50 : GoodIn wsU (wsV RX2 50 RX6 yX6_startAnew (.code yX6_startAnew cX6_startAnew 1 (Option.none : Option FieldType) :: wsU)) := good_V lm_X2_50 li_X6_startAnew lv_X6_startAnew ln_X6 lc_X6_startAnew
theorem gv_L_18 : GoodIn wsU (wsV RL 18 RX9 yX9_begin (.code yX9_begin cX9_begin 4 (Option.some FieldType.int) :: wsU)) := good_V lm_L_18 li_X9_begin lv_X9_begin ln_X9 lc_X9_begin
theorem gv_L_22 : GoodIn wsU (wsV RL 22 RX9 yX9_round (.code yX9_round cX9_round 3 (Option.some FieldType.int) :: wsU)) := good_V lm_L_22 li_X9_round lv_X9_round ln_X9 lc_X9_round
theorem gv_X9_107 : GoodIn wsU (wsV RX9 107 RX2 yX2_allows (.code yX2_allows cX2_allows 3 (Option.some FieldType.boolean) :: wsU)) := good_V lm_X9_107 li_X2_allows lv_X2_allows ln_X2 lc_X2_allows
theorem gv_X2_64 : GoodIn wsU (wsV RX2 64 RX2 yX2_isOver (.code yX2_isOver cX2_isOver 1 (Option.some FieldType.boolean) :: wsU)) := good_V lm_X2_64 li_X2_isOver lv_X2_isOver ln_X2 lc_X2_isOver
theorem gv_X2_53 : GoodIn wsU (wsV RX2 53 RX2 yX2_winner (.code yX2_winner cX2_winner 1 (Option.some FieldType.int) :: wsU)) := good_V lm_X2_53 li_X2_winner lv_X2_winner ln_X2 lc_X2_winner
theorem gv_X2_68 : GoodIn wsU (wsV RX2 68 RX2 yX2_mostOf (.code yX2_mostOf cX2_mostOf 2 (Option.some FieldType.int) :: wsU)) := good_V lm_X2_68 li_X2_mostOf lv_X2_mostOf ln_X2 lc_X2_mostOf
theorem gv_X2_57 : GoodIn wsU (wsV RX2 57 RX2 yX2_sideOf (.code yX2_sideOf cX2_sideOf 2 (Option.some (FieldType.object "BorrowedHours$Side")) :: wsU)) := good_V lm_X2_57 li_X2_sideOf lv_X2_sideOf ln_X2 lc_X2_sideOf
theorem gv_X9_111 : GoodIn wsU (wsV RX9 111 RX2 yX2_playRound (.code yX2_playRound cX2_playRound 7 (Option.some FieldType.int) :: wsU)) := good_V lm_X9_111 li_X2_playRound lv_X2_playRound ln_X2 lc_X2_playRound
theorem gv_X2_72 : GoodIn wsU (wsV RX2 72 RX2 yX2_takerOf (.code yX2_takerOf cX2_takerOf 4 (Option.some FieldType.int) :: wsU)) := good_V lm_X2_72 li_X2_takerOf lv_X2_takerOf ln_X2 lc_X2_takerOf
theorem gv_X2_82 : GoodIn wsU (wsV RX2 82 RX2 yX2_gainOf (.code yX2_gainOf cX2_gainOf 2 (Option.some FieldType.int) :: wsU)) := good_V lm_X2_82 li_X2_gainOf lv_X2_gainOf ln_X2 lc_X2_gainOf
theorem gv_L_26 : GoodIn wsU (wsV RL 26 RX9 yX9_play (.code yX9_play cX9_play 4 (Option.some FieldType.int) :: wsU)) := good_V lm_L_26 li_X9_play lv_X9_play ln_X9 lc_X9_play
theorem gv_X9_115 : GoodIn wsU (wsV RX9 115 RX2 yX2_isOver (.code yX2_isOver cX2_isOver 1 (Option.some FieldType.boolean) :: wsU)) := good_V lm_X9_115 li_X2_isOver lv_X2_isOver ln_X2 lc_X2_isOver
theorem gv_X9_119 : GoodIn wsU (wsV RX9 119 RX9 yX9_timesNow (.code yX9_timesNow cX9_timesNow 1 (Option.some (FieldType.object "BorrowedHours$Times")) :: wsU)) := good_V lm_X9_119 li_X9_timesNow lv_X9_timesNow ln_X9 lc_X9_timesNow
theorem gv_X9_151 : GoodIn wsU (wsV RX9 151 RX2 yX2_mostOf (.code yX2_mostOf cX2_mostOf 2 (Option.some FieldType.int) :: wsU)) := good_V lm_X9_151 li_X2_mostOf lv_X2_mostOf ln_X2 lc_X2_mostOf
theorem gv_X9_221 : GoodIn wsU (wsV RX9 221 RX4 yX4_tableFor (.code yX4_tableFor cX4_tableFor 10 (Option.some (FieldType.object "BorrowedHours$Times")) :: wsU)) := good_V lm_X9_221 li_X4_tableFor lv_X4_tableFor ln_X4 lc_X4_tableFor
theorem gv_X4_41 : GoodIn wsU (wsV RX4 41 RX8 yX8_learnAll (.code yX8_learnAll cX8_learnAll 3 (Option.none : Option FieldType) :: wsU)) := good_V lm_X4_41 li_X8_learnAll lv_X8_learnAll ln_X8 lc_X8_learnAll
theorem gv_X8_41 : GoodIn wsU (wsV RX8 41 RX8 yX8_learnRounds (.code yX8_learnRounds cX8_learnRounds 7 (Option.some FieldType.boolean) :: wsU)) := good_V lm_X8_41 li_X8_learnRounds lv_X8_learnRounds ln_X8 lc_X8_learnRounds
theorem gv_X8_45 : GoodIn wsU (wsV RX8 45 RX8 yX8_bidForces (.code yX8_bidForces cX8_bidForces 7 (Option.some FieldType.boolean) :: wsU)) := good_V lm_X8_45 li_X8_bidForces lv_X8_bidForces ln_X8 lc_X8_bidForces
theorem gv_X8_52 : GoodIn wsU (wsV RX8 52 RX8 yX8_lost (.code yX8_lost cX8_lost 8 (Option.some FieldType.boolean) :: wsU)) := good_V lm_X8_52 li_X8_lost lv_X8_lost ln_X8 lc_X8_lost
theorem gv_X8_62 : GoodIn wsU (wsV RX8 62 RX8 yX8_timeAt (.code yX8_timeAt cX8_timeAt 7 (Option.some FieldType.int) :: wsU)) := good_V lm_X8_62 li_X8_timeAt lv_X8_timeAt ln_X8 lc_X8_timeAt
theorem gv_X8_56 : GoodIn wsU (wsV RX8 56 RX8 yX8_neverTakes (.code yX8_neverTakes cX8_neverTakes 2 (Option.some FieldType.boolean) :: wsU)) := good_V lm_X8_56 li_X8_neverTakes lv_X8_neverTakes ln_X8 lc_X8_neverTakes
theorem gv_X8_59 : GoodIn wsU (wsV RX8 59 RX8 yX8_taken (.code yX8_taken cX8_taken 8 (Option.some FieldType.boolean) :: wsU)) := good_V lm_X8_59 li_X8_taken lv_X8_taken ln_X8 lc_X8_taken
theorem gv_X8_49 : GoodIn wsU (wsV RX8 49 RX8 yX8_answerForces (.code yX8_answerForces cX8_answerForces 7 (Option.some FieldType.boolean) :: wsU)) := good_V lm_X8_49 li_X8_answerForces lv_X8_answerForces ln_X8 lc_X8_answerForces
theorem gv_X9_123 : GoodIn wsU (wsV RX9 123 RX0 yX0_findBid (.code yX0_findBid cX0_findBid 7 (Option.some FieldType.int) :: wsU)) := good_V lm_X9_123 li_X0_findBid lv_X0_findBid ln_X0 lc_X0_findBid
theorem gv_X0_21 : GoodIn wsU (wsV RX0 21 RX2 yX2_mostOf (.code yX2_mostOf cX2_mostOf 2 (Option.some FieldType.int) :: wsU)) := good_V lm_X0_21 li_X2_mostOf lv_X2_mostOf ln_X2 lc_X2_mostOf
theorem gv_X0_25 : GoodIn wsU (wsV RX0 25 RX0 yX0_longestOwn (.code yX0_longestOwn cX0_longestOwn 6 (Option.some FieldType.int) :: wsU)) := good_V lm_X0_25 li_X0_longestOwn lv_X0_longestOwn ln_X0 lc_X0_longestOwn
theorem gv_X0_36 : GoodIn wsU (wsV RX0 36 RX0 yX0_timeBehind (.code yX0_timeBehind cX0_timeBehind 13 (Option.some FieldType.int) :: wsU)) := good_V lm_X0_36 li_X0_timeBehind lv_X0_timeBehind ln_X0 lc_X0_timeBehind
theorem gv_X0_49 : GoodIn wsU (wsV RX0 49 RX2 yX2_takerOf (.code yX2_takerOf cX2_takerOf 4 (Option.some FieldType.int) :: wsU)) := good_V lm_X0_49 li_X2_takerOf lv_X2_takerOf ln_X2 lc_X2_takerOf
theorem gv_X0_52 : GoodIn wsU (wsV RX0 52 RX2 yX2_gainOf (.code yX2_gainOf cX2_gainOf 2 (Option.some FieldType.int) :: wsU)) := good_V lm_X0_52 li_X2_gainOf lv_X2_gainOf ln_X2 lc_X2_gainOf
theorem gv_X0_55 : GoodIn wsU (wsV RX0 55 RX2 yX2_toWin (.code yX2_toWin cX2_toWin 2 (Option.some FieldType.int) :: wsU)) := good_V lm_X0_55 li_X2_toWin lv_X2_toWin ln_X2 lc_X2_toWin
theorem gv_X0_58 : GoodIn wsU (wsV RX0 58 RX8 yX8_timeAt (.code yX8_timeAt cX8_timeAt 7 (Option.some FieldType.int) :: wsU)) := good_V lm_X0_58 li_X8_timeAt lv_X8_timeAt ln_X8 lc_X8_timeAt
theorem gv_X0_29 : GoodIn wsU (wsV RX0 29 RX0 yX0_findDelay (.code yX0_findDelay cX0_findDelay 7 (Option.some FieldType.int) :: wsU)) := good_V lm_X0_29 li_X0_findDelay lv_X0_findDelay ln_X0 lc_X0_findDelay
theorem gv_X0_33 : GoodIn wsU (wsV RX0 33 RX0 yX0_leastOther (.code yX0_leastOther cX0_leastOther 6 (Option.some FieldType.int) :: wsU)) := good_V lm_X0_33 li_X0_leastOther lv_X0_leastOther ln_X0 lc_X0_leastOther
theorem gv_X9_127 : GoodIn wsU (wsV RX9 127 RX0 yX0_findAnswer (.code yX0_findAnswer cX0_findAnswer 11 (Option.some FieldType.int) :: wsU)) := good_V lm_X9_127 li_X0_findAnswer lv_X0_findAnswer ln_X0 lc_X0_findAnswer
theorem gv_L_31 : GoodIn wsU (wsV RL 31 RX9 yX9_run (.code yX9_run cX9_run 2 (Option.some FieldType.int) :: wsU)) := good_V lm_L_31 li_X9_run lv_X9_run ln_X9 lc_X9_run
theorem gv_X9_131 : GoodIn wsU (wsV RX9 131 RX5 yX5_firstFault (.code yX5_firstFault cX5_firstFault 5 (Option.some FieldType.int) :: wsU)) := good_V lm_X9_131 li_X5_firstFault lv_X5_firstFault ln_X5 lc_X5_firstFault
theorem gv_X5_21 : GoodIn wsU (wsV RX5 21 RX5 yX5_signAt (.code yX5_signAt cX5_signAt 2 (Option.some FieldType.int) :: wsU)) := good_V lm_X5_21 li_X5_signAt lv_X5_signAt ln_X5 lc_X5_signAt
theorem gs_X5_25 : GoodIn wsU (wsS RX5 25 yX5_canStandAsDigit (.code yX5_canStandAsDigit cX5_canStandAsDigit 2 (Option.some FieldType.boolean) :: wsU)) := good_S lm_X5_25 ls_X5_canStandAsDigit ln_X5 lc_X5_canStandAsDigit
theorem gv_X9_135 : GoodIn wsU (wsV RX9 135 RX9 yX9_playPad (.code yX9_playPad cX9_playPad 6 (Option.some FieldType.int) :: wsU)) := good_V lm_X9_135 li_X9_playPad lv_X9_playPad ln_X9 lc_X9_playPad
theorem gv_X9_234 : GoodIn wsU (wsV RX9 234 RX5 yX5_signAt (.code yX5_signAt cX5_signAt 2 (Option.some FieldType.int) :: wsU)) := good_V lm_X9_234 li_X5_signAt lv_X5_signAt ln_X5 lc_X5_signAt
theorem gv_X9_138 : GoodIn wsU (wsV RX9 138 RX5 yX5_clear (.code yX5_clear cX5_clear 1 (Option.none : Option FieldType) :: wsU)) := good_V lm_X9_138 li_X5_clear lv_X5_clear ln_X5 lc_X5_clear
theorem gv_L_35 : GoodIn wsU (wsV RL 35 RX9 yX9_player (.code yX9_player cX9_player 5 (Option.some FieldType.int) :: wsU)) := good_V lm_L_35 li_X9_player lv_X9_player ln_X9 lc_X9_player
theorem gs_X9_141 : GoodIn wsU (wsS RX9 141 yX9_isPlayer (.code yX9_isPlayer cX9_isPlayer 1 (Option.some FieldType.boolean) :: wsU)) := good_S lm_X9_141 ls_X9_isPlayer ln_X9 lc_X9_isPlayer
theorem gv_X9_144 : GoodIn wsU (wsV RX9 144 RX2 yX2_sideOf (.code yX2_sideOf cX2_sideOf 2 (Option.some (FieldType.object "BorrowedHours$Side")) :: wsU)) := good_V lm_X9_144 li_X2_sideOf lv_X2_sideOf ln_X2 lc_X2_sideOf
theorem gv_X9_163 : GoodIn wsU (wsV RX9 163 RX9 yX9_timeWith (.code yX9_timeWith cX9_timeWith 5 (Option.some FieldType.int) :: wsU)) := good_V lm_X9_163 li_X9_timeWith lv_X9_timeWith ln_X9 lc_X9_timeWith
theorem gv_X9_225 : GoodIn wsU (wsV RX9 225 RX2 yX2_toWin (.code yX2_toWin cX2_toWin 2 (Option.some FieldType.int) :: wsU)) := good_V lm_X9_225 li_X2_toWin lv_X2_toWin ln_X2 lc_X2_toWin
theorem gv_X9_228 : GoodIn wsU (wsV RX9 228 RX8 yX8_timeAt (.code yX8_timeAt cX8_timeAt 7 (Option.some FieldType.int) :: wsU)) := good_V lm_X9_228 li_X8_timeAt lv_X8_timeAt ln_X8 lc_X8_timeAt
theorem gv_L_39 : GoodIn wsU (wsV RL 39 RX9 yX9_count (.code yX9_count cX9_count 2 (Option.some FieldType.int) :: wsU)) := good_V lm_L_39 li_X9_count lv_X9_count ln_X9 lc_X9_count
theorem gv_X9_172 : GoodIn wsU (wsV RX9 172 RX2 yX2_winner (.code yX2_winner cX2_winner 1 (Option.some FieldType.int) :: wsU)) := good_V lm_X9_172 li_X2_winner lv_X2_winner ln_X2 lc_X2_winner
theorem gv_L_44 : GoodIn wsU (wsV RL 44 RX9 yX9_forced (.code yX9_forced cX9_forced 3 (Option.some FieldType.int) :: wsU)) := good_V lm_L_44 li_X9_forced lv_X9_forced ln_X9 lc_X9_forced
theorem gv_L_48 : GoodIn wsU (wsV RL 48 RX9 yX9_ahead (.code yX9_ahead cX9_ahead 3 (Option.some FieldType.int) :: wsU)) := good_V lm_L_48 li_X9_ahead lv_X9_ahead ln_X9 lc_X9_ahead
theorem gv_X9_184 : GoodIn wsU (wsV RX9 184 RX1 yX1_seesWinOf (.code yX1_seesWinOf cX1_seesWinOf 5 (Option.some FieldType.boolean) :: wsU)) := good_V lm_X9_184 li_X1_seesWinOf lv_X1_seesWinOf ln_X1 lc_X1_seesWinOf
theorem gv_X1_15 : GoodIn wsU (wsV RX1 15 RX2 yX2_mostOf (.code yX2_mostOf cX2_mostOf 2 (Option.some FieldType.int) :: wsU)) := good_V lm_X1_15 li_X2_mostOf lv_X2_mostOf ln_X2 lc_X2_mostOf
theorem gv_X1_27 : GoodIn wsU (wsV RX1 27 RX2 yX2_toWin (.code yX2_toWin cX2_toWin 2 (Option.some FieldType.int) :: wsU)) := good_V lm_X1_27 li_X2_toWin lv_X2_toWin ln_X2 lc_X2_toWin
theorem gv_X1_34 : GoodIn wsU (wsV RX1 34 RX1 yX1_seesWin (.code yX1_seesWin cX1_seesWin 6 (Option.some FieldType.boolean) :: wsU)) := good_V lm_X1_34 li_X1_seesWin lv_X1_seesWin ln_X1 lc_X1_seesWin
theorem gv_X1_41 : GoodIn wsU (wsV RX1 41 RX1 yX1_seesBid (.code yX1_seesBid cX1_seesBid 6 (Option.some FieldType.boolean) :: wsU)) := good_V lm_X1_41 li_X1_seesBid lv_X1_seesBid ln_X1 lc_X1_seesBid
theorem gv_X1_48 : GoodIn wsU (wsV RX1 48 RX1 yX1_standsAllAnswers (.code yX1_standsAllAnswers cX1_standsAllAnswers 7 (Option.some FieldType.boolean) :: wsU)) := good_V lm_X1_48 li_X1_standsAllAnswers lv_X1_standsAllAnswers ln_X1 lc_X1_standsAllAnswers
theorem gv_X1_52 : GoodIn wsU (wsV RX1 52 RX1 yX1_canTake (.code yX1_canTake cX1_canTake 2 (Option.some FieldType.boolean) :: wsU)) := good_V lm_X1_52 li_X1_canTake lv_X1_canTake ln_X1 lc_X1_canTake
theorem gv_X1_56 : GoodIn wsU (wsV RX1 56 RX1 yX1_seesTaken (.code yX1_seesTaken cX1_seesTaken 7 (Option.some FieldType.boolean) :: wsU)) := good_V lm_X1_56 li_X1_seesTaken lv_X1_seesTaken ln_X1 lc_X1_seesTaken
theorem gv_X1_72 : GoodIn wsU (wsV RX1 72 RX2 yX2_gainOf (.code yX2_gainOf cX2_gainOf 2 (Option.some FieldType.int) :: wsU)) := good_V lm_X1_72 li_X2_gainOf lv_X2_gainOf ln_X2 lc_X2_gainOf
theorem gv_X1_60 : GoodIn wsU (wsV RX1 60 RX1 yX1_leastTaking (.code yX1_leastTaking cX1_leastTaking 2 (Option.some FieldType.int) :: wsU)) := good_V lm_X1_60 li_X1_leastTaking lv_X1_leastTaking ln_X1 lc_X1_leastTaking
theorem gv_X1_63 : GoodIn wsU (wsV RX1 63 RX1 yX1_seesLost (.code yX1_seesLost cX1_seesLost 7 (Option.some FieldType.boolean) :: wsU)) := good_V lm_X1_63 li_X1_seesLost lv_X1_seesLost ln_X1 lc_X1_seesLost
theorem gv_X1_45 : GoodIn wsU (wsV RX1 45 RX1 yX1_seesAnswers (.code yX1_seesAnswers cX1_seesAnswers 6 (Option.some FieldType.boolean) :: wsU)) := good_V lm_X1_45 li_X1_seesAnswers lv_X1_seesAnswers ln_X1 lc_X1_seesAnswers
theorem gv_X1_66 : GoodIn wsU (wsV RX1 66 RX1 yX1_hasAnswer (.code yX1_hasAnswer cX1_hasAnswer 7 (Option.some FieldType.boolean) :: wsU)) := good_V lm_X1_66 li_X1_hasAnswer lv_X1_hasAnswer ln_X1 lc_X1_hasAnswer
theorem gv_L_52 : GoodIn wsU (wsV RL 52 RX9 yX9_bestBid (.code yX9_bestBid cX9_bestBid 1 (Option.some FieldType.int) :: wsU)) := good_V lm_L_52 li_X9_bestBid lv_X9_bestBid ln_X9 lc_X9_bestBid
theorem gv_L_56 : GoodIn wsU (wsV RL 56 RX9 yX9_bestAnswer (.code yX9_bestAnswer cX9_bestAnswer 2 (Option.some FieldType.int) :: wsU)) := good_V lm_L_56 li_X9_bestAnswer lv_X9_bestAnswer ln_X9 lc_X9_bestAnswer
theorem gv_L_60 : GoodIn wsU (wsV RL 60 RX9 yX9_keeps (.code yX9_keeps cX9_keeps 1 (Option.some FieldType.int) :: wsU)) := good_V lm_L_60 li_X9_keeps lv_X9_keeps ln_X9 lc_X9_keeps
theorem gv_X9_187 : GoodIn wsU (wsV RX9 187 RX0 yX0_countKeeping (.code yX0_countKeeping cX0_countKeeping 5 (Option.some FieldType.int) :: wsU)) := good_V lm_X9_187 li_X0_countKeeping lv_X0_countKeeping ln_X0 lc_X0_countKeeping
theorem gv_L_64 : GoodIn wsU (wsV RL 64 RX9 yX9_leastHours (.code yX9_leastHours cX9_leastHours 3 (Option.some FieldType.int) :: wsU)) := good_V lm_L_64 li_X9_leastHours lv_X9_leastHours ln_X9 lc_X9_leastHours
theorem gv_L_70 : GoodIn wsU (wsV RL 70 RX9 yX9_put (.code yX9_put cX9_put 4 (Option.some FieldType.int) :: wsU)) := good_V lm_L_70 li_X9_put lv_X9_put ln_X9 lc_X9_put
theorem gs_X9_193 : GoodIn wsU (wsS RX9 193 yX5_countSigns (.code yX5_countSigns cX5_countSigns 6 (Option.some FieldType.int) :: wsU)) := good_S lm_X9_193 ls_X5_countSigns ln_X9 lc_X5_countSigns
theorem gv_X9_197 : GoodIn wsU (wsV RX9 197 RX5 yX5_append (.code yX5_append cX5_append 5 (Option.none : Option FieldType) :: wsU)) := good_V lm_X9_197 li_X5_append lv_X5_append ln_X5 lc_X5_append
theorem gv_L_75 : GoodIn wsU (wsV RL 75 RX9 yX9_wipe (.code yX9_wipe cX9_wipe 2 (Option.some FieldType.int) :: wsU)) := good_V lm_L_75 li_X9_wipe lv_X9_wipe ln_X9 lc_X9_wipe
theorem gv_L_79 : GoodIn wsU (wsV RL 79 RX9 yX9_fault (.code yX9_fault cX9_fault 1 (Option.some FieldType.int) :: wsU)) := good_V lm_L_79 li_X9_fault lv_X9_fault ln_X9 lc_X9_fault
theorem gv_L_83 : GoodIn wsU (wsV RL 83 RX9 yX9_undo (.code yX9_undo cX9_undo 1 (Option.some FieldType.int) :: wsU)) := good_V lm_L_83 li_X9_undo lv_X9_undo ln_X9 lc_X9_undo
theorem gv_X9_201 : GoodIn wsU (wsV RX9 201 RX3 yX3_takeBack (.code yX3_takeBack cX3_takeBack 3 (Option.none : Option FieldType) :: wsU)) := good_V lm_X9_201 li_X3_takeBack lv_X3_takeBack ln_X3 lc_X3_takeBack
theorem gv_L_87 : GoodIn wsU (wsV RL 87 RX9 yX9_save (.code yX9_save cX9_save 3 (Option.some FieldType.int) :: wsU)) := good_V lm_L_87 li_X9_save lv_X9_save ln_X9 lc_X9_save
theorem gs_X9_204 : GoodIn wsU (wsS RX9 204 yX9_isSlot (.code yX9_isSlot cX9_isSlot 1 (Option.some FieldType.boolean) :: wsU)) := good_S lm_X9_204 ls_X9_isSlot ln_X9 lc_X9_isSlot
theorem gv_X9_207 : GoodIn wsU (wsV RX9 207 RX9 yX9_slotOf (.code yX9_slotOf cX9_slotOf 2 (Option.some (FieldType.object "BorrowedHours$Slot")) :: wsU)) := good_V lm_X9_207 li_X9_slotOf lv_X9_slotOf ln_X9 lc_X9_slotOf
theorem gv_X9_214 : GoodIn wsU (wsV RX9 214 RX2 yX2_copyFrom (.code yX2_copyFrom cX2_copyFrom 2 (Option.none : Option FieldType) :: wsU)) := good_V lm_X9_214 li_X2_copyFrom lv_X2_copyFrom ln_X2 lc_X2_copyFrom
theorem gv_L_91 : GoodIn wsU (wsV RL 91 RX9 yX9_restore (.code yX9_restore cX9_restore 3 (Option.some FieldType.int) :: wsU)) := good_V lm_L_91 li_X9_restore lv_X9_restore ln_X9 lc_X9_restore
theorem gv_X10_31 : GoodIn wsU (wsV RX10 31 RX10 yX10_newGame (.code yX10_newGame cX10_newGame 2 (Option.none : Option FieldType) :: wsU)) := good_V lm_X10_31 li_X10_newGame lv_X10_newGame ln_X10 lc_X10_newGame
theorem gv_L_17 : GoodIn wsU (wsV RL 17 RX10 yX10_set (.code yX10_set cX10_set 4 (Option.some FieldType.int) :: wsU)) := good_V lm_L_17 li_X10_set lv_X10_set ln_X10 lc_X10_set
theorem gs_X10_101 : GoodIn wsU (wsS RX10 101 yX10_isSetting (.code yX10_isSetting cX10_isSetting 2 (Option.some FieldType.boolean) :: wsU)) := good_S lm_X10_101 ls_X10_isSetting ln_X10 lc_X10_isSetting
theorem gs_X10_95 : GoodIn wsU (wsS RX10 95 yX10_in (.code yX10_in cX10_in 6 (Option.some FieldType.boolean) :: wsU)) := good_S lm_X10_95 ls_X10_in ln_X10 lc_X10_in
theorem gv_X10_105 : GoodIn wsU (wsV RX10 105 RX10 yX10_changes (.code yX10_changes cX10_changes 2 (Option.none : Option FieldType) :: wsU)) := good_V lm_X10_105 li_X10_changes lv_X10_changes ln_X10 lc_X10_changes
theorem gv_L_21 : GoodIn wsU (wsV RL 21 RX10 yX10_begin (.code yX10_begin cX10_begin 4 (Option.some FieldType.int) :: wsU)) := good_V lm_L_21 li_X10_begin lv_X10_begin ln_X10 lc_X10_begin
theorem gv_L_25 : GoodIn wsU (wsV RL 25 RX10 yX10_round (.code yX10_round cX10_round 3 (Option.some FieldType.int) :: wsU)) := good_V lm_L_25 li_X10_round lv_X10_round ln_X10 lc_X10_round
theorem gv_X10_112 : GoodIn wsU (wsV RX10 112 RX10 yX10_canPlay (.code yX10_canPlay cX10_canPlay 3 (Option.some FieldType.boolean) :: wsU)) := good_V lm_X10_112 li_X10_canPlay lv_X10_canPlay ln_X10 lc_X10_canPlay
theorem gv_X10_46 : GoodIn wsU (wsV RX10 46 RX10 yX10_isOver (.code yX10_isOver cX10_isOver 1 (Option.some FieldType.boolean) :: wsU)) := good_V lm_X10_46 li_X10_isOver lv_X10_isOver ln_X10 lc_X10_isOver
theorem gv_X10_38 : GoodIn wsU (wsV RX10 38 RX10 yX10_winnerAt (.code yX10_winnerAt cX10_winnerAt 2 (Option.some FieldType.int) :: wsU)) := good_V lm_X10_38 li_X10_winnerAt lv_X10_winnerAt ln_X10 lc_X10_winnerAt
theorem gv_X10_50 : GoodIn wsU (wsV RX10 50 RX10 yX10_most (.code yX10_most cX10_most 2 (Option.some FieldType.int) :: wsU)) := good_V lm_X10_50 li_X10_most lv_X10_most ln_X10 lc_X10_most
theorem gv_X10_115 : GoodIn wsU (wsV RX10 115 RX10 yX10_plays (.code yX10_plays cX10_plays 6 (Option.some FieldType.int) :: wsU)) := good_V lm_X10_115 li_X10_plays lv_X10_plays ln_X10 lc_X10_plays
theorem gv_X10_42 : GoodIn wsU (wsV RX10 42 RX10 yX10_taker (.code yX10_taker cX10_taker 4 (Option.some FieldType.int) :: wsU)) := good_V lm_X10_42 li_X10_taker lv_X10_taker ln_X10 lc_X10_taker
theorem gv_L_30 : GoodIn wsU (wsV RL 30 RX10 yX10_play (.code yX10_play cX10_play 3 (Option.some FieldType.int) :: wsU)) := good_V lm_L_30 li_X10_play lv_X10_play ln_X10 lc_X10_play
theorem gv_X10_119 : GoodIn wsU (wsV RX10 119 RX10 yX10_bestBid (.code yX10_bestBid cX10_bestBid 8 (Option.some FieldType.int) :: wsU)) := good_V lm_X10_119 li_X10_bestBid lv_X10_bestBid ln_X10 lc_X10_bestBid
theorem gv_X10_86 : GoodIn wsU (wsV RX10 86 RX10 yX10_knows (.code yX10_knows cX10_knows 6 (Option.none : Option FieldType) :: wsU)) := good_V lm_X10_86 li_X10_knows lv_X10_knows ln_X10 lc_X10_knows
theorem gv_X10_82 : GoodIn wsU (wsV RX10 82 RX10 yX10_worksOutAll (.code yX10_worksOutAll cX10_worksOutAll 5 (Option.none : Option FieldType) :: wsU)) := good_V lm_X10_82 li_X10_worksOutAll lv_X10_worksOutAll ln_X10 lc_X10_worksOutAll
theorem gv_X10_65 : GoodIn wsU (wsV RX10 65 RX10 yX10_lowest (.code yX10_lowest cX10_lowest 1 (Option.some FieldType.int) :: wsU)) := good_V lm_X10_65 li_X10_lowest lv_X10_lowest ln_X10 lc_X10_lowest
theorem gv_X10_69 : GoodIn wsU (wsV RX10 69 RX10 yX10_worksOut (.code yX10_worksOut cX10_worksOut 9 (Option.none : Option FieldType) :: wsU)) := good_V lm_X10_69 li_X10_worksOut lv_X10_worksOut ln_X10 lc_X10_worksOut
theorem gs_X10_53 : GoodIn wsU (wsS RX10 53 yX10_at (.code yX10_at cX10_at 6 (Option.some FieldType.int) :: wsU)) := good_S lm_X10_53 ls_X10_at ln_X10 lc_X10_at
theorem gv_X10_61 : GoodIn wsU (wsV RX10 61 RX10 yX10_canForce (.code yX10_canForce cX10_canForce 16 (Option.some FieldType.boolean) :: wsU)) := good_V lm_X10_61 li_X10_canForce lv_X10_canForce ln_X10 lc_X10_canForce
theorem gv_X10_57 : GoodIn wsU (wsV RX10 57 RX10 yX10_behind (.code yX10_behind cX10_behind 13 (Option.some FieldType.int) :: wsU)) := good_V lm_X10_57 li_X10_behind lv_X10_behind ln_X10 lc_X10_behind
theorem gv_X10_143 : GoodIn wsU (wsV RX10 143 RX10 yX10_worstBehind (.code yX10_worstBehind cX10_worstBehind 5 (Option.some FieldType.int) :: wsU)) := good_V lm_X10_143 li_X10_worstBehind lv_X10_worstBehind ln_X10 lc_X10_worstBehind
theorem gv_X10_140 : GoodIn wsU (wsV RX10 140 RX10 yX10_timeBehind (.code yX10_timeBehind cX10_timeBehind 5 (Option.some FieldType.int) :: wsU)) := good_V lm_X10_140 li_X10_timeBehind lv_X10_timeBehind ln_X10 lc_X10_timeBehind
theorem gv_X10_146 : GoodIn wsU (wsV RX10 146 RX10 yX10_othersBehind (.code yX10_othersBehind cX10_othersBehind 5 (Option.some FieldType.int) :: wsU)) := good_V lm_X10_146 li_X10_othersBehind lv_X10_othersBehind ln_X10 lc_X10_othersBehind
theorem gv_X10_122 : GoodIn wsU (wsV RX10 122 RX10 yX10_answerTo (.code yX10_answerTo cX10_answerTo 9 (Option.some FieldType.int) :: wsU)) := good_V lm_X10_122 li_X10_answerTo lv_X10_answerTo ln_X10 lc_X10_answerTo
theorem gv_L_38 : GoodIn wsU (wsV RL 38 RX10 yX10_player (.code yX10_player cX10_player 3 (Option.some FieldType.int) :: wsU)) := good_V lm_L_38 li_X10_player lv_X10_player ln_X10 lc_X10_player
theorem gs_X10_125 : GoodIn wsU (wsS RX10 125 yX10_isPlayer (.code yX10_isPlayer cX10_isPlayer 1 (Option.some FieldType.boolean) :: wsU)) := good_S lm_X10_125 ls_X10_isPlayer ln_X10 lc_X10_isPlayer
theorem gv_X10_129 : GoodIn wsU (wsV RX10 129 RX10 yX10_timeOf (.code yX10_timeOf cX10_timeOf 2 (Option.some FieldType.int) :: wsU)) := good_V lm_X10_129 li_X10_timeOf lv_X10_timeOf ln_X10 lc_X10_timeOf
theorem gv_X10_90 : GoodIn wsU (wsV RX10 90 RX10 yX10_timeWith (.code yX10_timeWith cX10_timeWith 4 (Option.some FieldType.int) :: wsU)) := good_V lm_X10_90 li_X10_timeWith lv_X10_timeWith ln_X10 lc_X10_timeWith
theorem gv_L_43 : GoodIn wsU (wsV RL 43 RX10 yX10_count (.code yX10_count cX10_count 2 (Option.some FieldType.int) :: wsU)) := good_V lm_L_43 li_X10_count lv_X10_count ln_X10 lc_X10_count
theorem gv_L_47 : GoodIn wsU (wsV RL 47 RX10 yX10_forced (.code yX10_forced cX10_forced 3 (Option.some FieldType.int) :: wsU)) := good_V lm_L_47 li_X10_forced lv_X10_forced ln_X10 lc_X10_forced
theorem gv_L_51 : GoodIn wsU (wsV RL 51 RX10 yX10_ahead (.code yX10_ahead cX10_ahead 3 (Option.some FieldType.int) :: wsU)) := good_V lm_L_51 li_X10_ahead lv_X10_ahead ln_X10 lc_X10_ahead
theorem gv_X10_137 : GoodIn wsU (wsV RX10 137 RX10 yX10_forced (.code yX10_forced cX10_forced 3 (Option.some FieldType.int) :: wsU)) := good_V lm_X10_137 li_X10_forced lv_X10_forced ln_X10 lc_X10_forced
theorem gv_L_55 : GoodIn wsU (wsV RL 55 RX10 yX10_bestBid (.code yX10_bestBid cX10_bestBid 8 (Option.some FieldType.int) :: wsU)) := good_V lm_L_55 li_X10_bestBid lv_X10_bestBid ln_X10 lc_X10_bestBid
theorem gv_L_59 : GoodIn wsU (wsV RL 59 RX10 yX10_bestAnswer (.code yX10_bestAnswer cX10_bestAnswer 2 (Option.some FieldType.int) :: wsU)) := good_V lm_L_59 li_X10_bestAnswer lv_X10_bestAnswer ln_X10 lc_X10_bestAnswer
theorem gv_L_63 : GoodIn wsU (wsV RL 63 RX10 yX10_keeps (.code yX10_keeps cX10_keeps 3 (Option.some FieldType.int) :: wsU)) := good_V lm_L_63 li_X10_keeps lv_X10_keeps ln_X10 lc_X10_keeps
theorem gv_L_67 : GoodIn wsU (wsV RL 67 RX10 yX10_leastHours (.code yX10_leastHours cX10_leastHours 5 (Option.some FieldType.int) :: wsU)) := good_V lm_L_67 li_X10_leastHours lv_X10_leastHours ln_X10 lc_X10_leastHours
theorem gv_L_74 : GoodIn wsU (wsV RL 74 RX10 yX10_put (.code yX10_put cX10_put 5 (Option.some FieldType.int) :: wsU)) := good_V lm_L_74 li_X10_put lv_X10_put ln_X10 lc_X10_put
theorem gs_X10_155 : GoodIn wsU (wsS RX10 155 yX10_charactersOf (.code yX10_charactersOf cX10_charactersOf 5 (Option.some FieldType.int) :: wsU)) := good_S lm_X10_155 ls_X10_charactersOf ln_X10 lc_X10_charactersOf
theorem gv_L_78 : GoodIn wsU (wsV RL 78 RX10 yX10_wipe (.code yX10_wipe cX10_wipe 2 (Option.some FieldType.int) :: wsU)) := good_V lm_L_78 li_X10_wipe lv_X10_wipe ln_X10 lc_X10_wipe
theorem gv_L_82 : GoodIn wsU (wsV RL 82 RX10 yX10_fault (.code yX10_fault cX10_fault 2 (Option.some FieldType.int) :: wsU)) := good_V lm_L_82 li_X10_fault lv_X10_fault ln_X10 lc_X10_fault
theorem gv_X10_177 : GoodIn wsU (wsV RX10 177 RX10 yX10_readsRound (.code yX10_readsRound cX10_readsRound 1 (Option.some FieldType.boolean) :: wsU)) := good_V lm_X10_177 li_X10_readsRound lv_X10_readsRound ln_X10 lc_X10_readsRound
theorem gv_X10_168 : GoodIn wsU (wsV RX10 168 RX10 yX10_readsBid (.code yX10_readsBid cX10_readsBid 1 (Option.some FieldType.boolean) :: wsU)) := good_V lm_X10_168 li_X10_readsBid lv_X10_readsBid ln_X10 lc_X10_readsBid
theorem gv_X10_162 : GoodIn wsU (wsV RX10 162 RX10 yX10_isHere (.code yX10_isHere cX10_isHere 3 (Option.some FieldType.boolean) :: wsU)) := good_V lm_X10_162 li_X10_isHere lv_X10_isHere ln_X10 lc_X10_isHere
theorem gv_X10_174 : GoodIn wsU (wsV RX10 174 RX10 yX10_takesOne (.code yX10_takesOne cX10_takesOne 3 (Option.some FieldType.boolean) :: wsU)) := good_V lm_X10_174 li_X10_takesOne lv_X10_takesOne ln_X10 lc_X10_takesOne
theorem gv_L_34 : GoodIn wsU (wsV RL 34 RX10 yX10_run (.code yX10_run cX10_run 3 (Option.some FieldType.int) :: wsU)) := good_V lm_L_34 li_X10_run lv_X10_run ln_X10 lc_X10_run
theorem gv_X10_180 : GoodIn wsU (wsV RX10 180 RX10 yX10_fault (.code yX10_fault cX10_fault 2 (Option.some FieldType.int) :: wsU)) := good_V lm_X10_180 li_X10_fault lv_X10_fault ln_X10 lc_X10_fault
theorem gv_L_86 : GoodIn wsU (wsV RL 86 RX10 yX10_undo (.code yX10_undo cX10_undo 2 (Option.some FieldType.int) :: wsU)) := good_V lm_L_86 li_X10_undo lv_X10_undo ln_X10 lc_X10_undo
theorem gv_L_90 : GoodIn wsU (wsV RL 90 RX10 yX10_save (.code yX10_save cX10_save 3 (Option.some FieldType.int) :: wsU)) := good_V lm_L_90 li_X10_save lv_X10_save ln_X10 lc_X10_save
theorem gv_L_94 : GoodIn wsU (wsV RL 94 RX10 yX10_restore (.code yX10_restore cX10_restore 3 (Option.some FieldType.int) :: wsU)) := good_V lm_L_94 li_X10_restore lv_X10_restore ln_X10 lc_X10_restore
theorem yv_X9_init : yX9_init.name = "<init>" ∧ yX9_init.cls ≠ "java/lang/invoke/MethodHandle" ∧ yX9_init.cls ≠ "java/lang/invoke/VarHandle" ∧ (parseMethodDescriptor yX9_init.desc).map (fun d => d.parameters.length) = some 0 := by decide +kernel
theorem yv_X2_init : yX2_init.name = "<init>" ∧ yX2_init.cls ≠ "java/lang/invoke/MethodHandle" ∧ yX2_init.cls ≠ "java/lang/invoke/VarHandle" ∧ (parseMethodDescriptor yX2_init.desc).map (fun d => d.parameters.length) = some 0 := by decide +kernel
theorem yv_X6_init : yX6_init.name = "<init>" ∧ yX6_init.cls ≠ "java/lang/invoke/MethodHandle" ∧ yX6_init.cls ≠ "java/lang/invoke/VarHandle" ∧ (parseMethodDescriptor yX6_init.desc).map (fun d => d.parameters.length) = some 0 := by decide +kernel
theorem yv_X3_init : yX3_init.name = "<init>" ∧ yX3_init.cls ≠ "java/lang/invoke/MethodHandle" ∧ yX3_init.cls ≠ "java/lang/invoke/VarHandle" ∧ (parseMethodDescriptor yX3_init.desc).map (fun d => d.parameters.length) = some 0 := by decide +kernel
theorem yv_X7_init : yX7_init.name = "<init>" ∧ yX7_init.cls ≠ "java/lang/invoke/MethodHandle" ∧ yX7_init.cls ≠ "java/lang/invoke/VarHandle" ∧ (parseMethodDescriptor yX7_init.desc).map (fun d => d.parameters.length) = some 0 := by decide +kernel
theorem yv_X5_init : yX5_init.name = "<init>" ∧ yX5_init.cls ≠ "java/lang/invoke/MethodHandle" ∧ yX5_init.cls ≠ "java/lang/invoke/VarHandle" ∧ (parseMethodDescriptor yX5_init.desc).map (fun d => d.parameters.length) = some 0 := by decide +kernel
theorem yv_X4_init : yX4_init.name = "<init>" ∧ yX4_init.cls ≠ "java/lang/invoke/MethodHandle" ∧ yX4_init.cls ≠ "java/lang/invoke/VarHandle" ∧ (parseMethodDescriptor yX4_init.desc).map (fun d => d.parameters.length) = some 0 := by decide +kernel
theorem yv_X0_init : yX0_init.name = "<init>" ∧ yX0_init.cls ≠ "java/lang/invoke/MethodHandle" ∧ yX0_init.cls ≠ "java/lang/invoke/VarHandle" ∧ (parseMethodDescriptor yX0_init.desc).map (fun d => d.parameters.length) = some 1 := by decide +kernel
theorem yv_X1_init : yX1_init.name = "<init>" ∧ yX1_init.cls ≠ "java/lang/invoke/MethodHandle" ∧ yX1_init.cls ≠ "java/lang/invoke/VarHandle" ∧ (parseMethodDescriptor yX1_init.desc).map (fun d => d.parameters.length) = some 1 := by decide +kernel
theorem yv_X9_set : yX9_set.cls = RX9 ∧ yX9_set.cls ≠ "java/lang/invoke/MethodHandle" ∧ yX9_set.cls ≠ "java/lang/invoke/VarHandle" ∧ (parseMethodDescriptor yX9_set.desc).map (fun d => d.parameters.length) = some 2 := by decide +kernel
theorem yv_X9_isSetting : yX9_isSetting.cls = RX9 ∧ yX9_isSetting.cls ≠ "java/lang/invoke/MethodHandle" ∧ yX9_isSetting.cls ≠ "java/lang/invoke/VarHandle" ∧ (parseMethodDescriptor yX9_isSetting.desc).map (fun d => d.parameters.length) = some 1 := by decide +kernel
theorem yv_X9_isBetween : yX9_isBetween.cls = RX9 ∧ yX9_isBetween.cls ≠ "java/lang/invoke/MethodHandle" ∧ yX9_isBetween.cls ≠ "java/lang/invoke/VarHandle" ∧ (parseMethodDescriptor yX9_isBetween.desc).map (fun d => d.parameters.length) = some 3 := by decide +kernel
theorem yv_X9_leastSetting : yX9_leastSetting.cls = RX9 ∧ yX9_leastSetting.cls ≠ "java/lang/invoke/MethodHandle" ∧ yX9_leastSetting.cls ≠ "java/lang/invoke/VarHandle" ∧ (parseMethodDescriptor yX9_leastSetting.desc).map (fun d => d.parameters.length) = some 1 := by decide +kernel
theorem yv_X9_mostSetting : yX9_mostSetting.cls = RX9 ∧ yX9_mostSetting.cls ≠ "java/lang/invoke/MethodHandle" ∧ yX9_mostSetting.cls ≠ "java/lang/invoke/VarHandle" ∧ (parseMethodDescriptor yX9_mostSetting.desc).map (fun d => d.parameters.length) = some 1 := by decide +kernel
theorem yv_X2_settingOf : yX2_settingOf.cls = RX2 ∧ yX2_settingOf.cls ≠ "java/lang/invoke/MethodHandle" ∧ yX2_settingOf.cls ≠ "java/lang/invoke/VarHandle" ∧ (parseMethodDescriptor yX2_settingOf.desc).map (fun d => d.parameters.length) = some 1 := by decide +kernel
theorem yv_X3_keepState : yX3_keepState.cls = RX3 ∧ yX3_keepState.cls ≠ "java/lang/invoke/MethodHandle" ∧ yX3_keepState.cls ≠ "java/lang/invoke/VarHandle" ∧ (parseMethodDescriptor yX3_keepState.desc).map (fun d => d.parameters.length) = some 1 := by decide +kernel
theorem yv_X3_dropOldest : yX3_dropOldest.cls = RX3 ∧ yX3_dropOldest.cls ≠ "java/lang/invoke/MethodHandle" ∧ yX3_dropOldest.cls ≠ "java/lang/invoke/VarHandle" ∧ (parseMethodDescriptor yX3_dropOldest.desc).map (fun d => d.parameters.length) = some 0 := by decide +kernel
theorem yv_X2_copyFrom : yX2_copyFrom.cls = RX2 ∧ yX2_copyFrom.cls ≠ "java/lang/invoke/MethodHandle" ∧ yX2_copyFrom.cls ≠ "java/lang/invoke/VarHandle" ∧ (parseMethodDescriptor yX2_copyFrom.desc).map (fun d => d.parameters.length) = some 1 := by decide +kernel
theorem yv_X6_copyFrom : yX6_copyFrom.cls = RX6 ∧ yX6_copyFrom.cls ≠ "java/lang/invoke/MethodHandle" ∧ yX6_copyFrom.cls ≠ "java/lang/invoke/VarHandle" ∧ (parseMethodDescriptor yX6_copyFrom.desc).map (fun d => d.parameters.length) = some 1 := by decide +kernel
theorem yv_X2_changeSetting : yX2_changeSetting.cls = RX2 ∧ yX2_changeSetting.cls ≠ "java/lang/invoke/MethodHandle" ∧ yX2_changeSetting.cls ≠ "java/lang/invoke/VarHandle" ∧ (parseMethodDescriptor yX2_changeSetting.desc).map (fun d => d.parameters.length) = some 2 := by decide +kernel
theorem yv_X2_startAnew : yX2_startAnew.cls = RX2 ∧ yX2_startAnew.cls ≠ "java/lang/invoke/MethodHandle" ∧ yX2_startAnew.cls ≠ "java/lang/invoke/VarHandle" ∧ (parseMethodDescriptor yX2_startAnew.desc).map (fun d => d.parameters.length) = some 0 := by decide +kernel
theorem yv_X6_startAnew : yX6_startAnew.cls = RX6 ∧ yX6_startAnew.cls ≠ "java/lang/invoke/MethodHandle" ∧ yX6_startAnew.cls ≠ "java/lang/invoke/VarHandle" ∧ (parseMethodDescriptor yX6_startAnew.desc).map (fun d => d.parameters.length) = some 0 := by decide +kernel
theorem yv_X9_begin : yX9_begin.cls = RX9 ∧ yX9_begin.cls ≠ "java/lang/invoke/MethodHandle" ∧ yX9_begin.cls ≠ "java/lang/invoke/VarHandle" ∧ (parseMethodDescriptor yX9_begin.desc).map (fun d => d.parameters.length) = some 2 := by decide +kernel
theorem yv_X9_round : yX9_round.cls = RX9 ∧ yX9_round.cls ≠ "java/lang/invoke/MethodHandle" ∧ yX9_round.cls ≠ "java/lang/invoke/VarHandle" ∧ (parseMethodDescriptor yX9_round.desc).map (fun d => d.parameters.length) = some 2 := by decide +kernel
theorem yv_X2_allows : yX2_allows.cls = RX2 ∧ yX2_allows.cls ≠ "java/lang/invoke/MethodHandle" ∧ yX2_allows.cls ≠ "java/lang/invoke/VarHandle" ∧ (parseMethodDescriptor yX2_allows.desc).map (fun d => d.parameters.length) = some 2 := by decide +kernel
theorem yv_X2_isOver : yX2_isOver.cls = RX2 ∧ yX2_isOver.cls ≠ "java/lang/invoke/MethodHandle" ∧ yX2_isOver.cls ≠ "java/lang/invoke/VarHandle" ∧ (parseMethodDescriptor yX2_isOver.desc).map (fun d => d.parameters.length) = some 0 := by decide +kernel
theorem yv_X2_winner : yX2_winner.cls = RX2 ∧ yX2_winner.cls ≠ "java/lang/invoke/MethodHandle" ∧ yX2_winner.cls ≠ "java/lang/invoke/VarHandle" ∧ (parseMethodDescriptor yX2_winner.desc).map (fun d => d.parameters.length) = some 0 := by decide +kernel
theorem yv_X2_mostOf : yX2_mostOf.cls = RX2 ∧ yX2_mostOf.cls ≠ "java/lang/invoke/MethodHandle" ∧ yX2_mostOf.cls ≠ "java/lang/invoke/VarHandle" ∧ (parseMethodDescriptor yX2_mostOf.desc).map (fun d => d.parameters.length) = some 1 := by decide +kernel
theorem yv_X2_sideOf : yX2_sideOf.cls = RX2 ∧ yX2_sideOf.cls ≠ "java/lang/invoke/MethodHandle" ∧ yX2_sideOf.cls ≠ "java/lang/invoke/VarHandle" ∧ (parseMethodDescriptor yX2_sideOf.desc).map (fun d => d.parameters.length) = some 1 := by decide +kernel
theorem yv_X2_playRound : yX2_playRound.cls = RX2 ∧ yX2_playRound.cls ≠ "java/lang/invoke/MethodHandle" ∧ yX2_playRound.cls ≠ "java/lang/invoke/VarHandle" ∧ (parseMethodDescriptor yX2_playRound.desc).map (fun d => d.parameters.length) = some 2 := by decide +kernel
theorem yv_X2_takerOf : yX2_takerOf.cls = RX2 ∧ yX2_takerOf.cls ≠ "java/lang/invoke/MethodHandle" ∧ yX2_takerOf.cls ≠ "java/lang/invoke/VarHandle" ∧ (parseMethodDescriptor yX2_takerOf.desc).map (fun d => d.parameters.length) = some 2 := by decide +kernel
theorem yv_X2_gainOf : yX2_gainOf.cls = RX2 ∧ yX2_gainOf.cls ≠ "java/lang/invoke/MethodHandle" ∧ yX2_gainOf.cls ≠ "java/lang/invoke/VarHandle" ∧ (parseMethodDescriptor yX2_gainOf.desc).map (fun d => d.parameters.length) = some 1 := by decide +kernel
theorem yv_X9_play : yX9_play.cls = RX9 ∧ yX9_play.cls ≠ "java/lang/invoke/MethodHandle" ∧ yX9_play.cls ≠ "java/lang/invoke/VarHandle" ∧ (parseMethodDescriptor yX9_play.desc).map (fun d => d.parameters.length) = some 0 := by decide +kernel
theorem yv_X9_timesNow : yX9_timesNow.cls = RX9 ∧ yX9_timesNow.cls ≠ "java/lang/invoke/MethodHandle" ∧ yX9_timesNow.cls ≠ "java/lang/invoke/VarHandle" ∧ (parseMethodDescriptor yX9_timesNow.desc).map (fun d => d.parameters.length) = some 0 := by decide +kernel
theorem yv_X4_tableFor : yX4_tableFor.cls = RX4 ∧ yX4_tableFor.cls ≠ "java/lang/invoke/MethodHandle" ∧ yX4_tableFor.cls ≠ "java/lang/invoke/VarHandle" ∧ (parseMethodDescriptor yX4_tableFor.desc).map (fun d => d.parameters.length) = some 2 := by decide +kernel
theorem yv_X8_init : yX8_init.name = "<init>" ∧ yX8_init.cls ≠ "java/lang/invoke/MethodHandle" ∧ yX8_init.cls ≠ "java/lang/invoke/VarHandle" ∧ (parseMethodDescriptor yX8_init.desc).map (fun d => d.parameters.length) = some 4 := by decide +kernel
theorem yv_X8_learnAll : yX8_learnAll.cls = RX8 ∧ yX8_learnAll.cls ≠ "java/lang/invoke/MethodHandle" ∧ yX8_learnAll.cls ≠ "java/lang/invoke/VarHandle" ∧ (parseMethodDescriptor yX8_learnAll.desc).map (fun d => d.parameters.length) = some 0 := by decide +kernel
theorem yv_X8_learnRounds : yX8_learnRounds.cls = RX8 ∧ yX8_learnRounds.cls ≠ "java/lang/invoke/MethodHandle" ∧ yX8_learnRounds.cls ≠ "java/lang/invoke/VarHandle" ∧ (parseMethodDescriptor yX8_learnRounds.desc).map (fun d => d.parameters.length) = some 1 := by decide +kernel
theorem yv_X8_bidForces : yX8_bidForces.cls = RX8 ∧ yX8_bidForces.cls ≠ "java/lang/invoke/MethodHandle" ∧ yX8_bidForces.cls ≠ "java/lang/invoke/VarHandle" ∧ (parseMethodDescriptor yX8_bidForces.desc).map (fun d => d.parameters.length) = some 4 := by decide +kernel
theorem yv_X8_lost : yX8_lost.cls = RX8 ∧ yX8_lost.cls ≠ "java/lang/invoke/MethodHandle" ∧ yX8_lost.cls ≠ "java/lang/invoke/VarHandle" ∧ (parseMethodDescriptor yX8_lost.desc).map (fun d => d.parameters.length) = some 6 := by decide +kernel
theorem yv_X8_timeAt : yX8_timeAt.cls = RX8 ∧ yX8_timeAt.cls ≠ "java/lang/invoke/MethodHandle" ∧ yX8_timeAt.cls ≠ "java/lang/invoke/VarHandle" ∧ (parseMethodDescriptor yX8_timeAt.desc).map (fun d => d.parameters.length) = some 4 := by decide +kernel
theorem yv_X8_neverTakes : yX8_neverTakes.cls = RX8 ∧ yX8_neverTakes.cls ≠ "java/lang/invoke/MethodHandle" ∧ yX8_neverTakes.cls ≠ "java/lang/invoke/VarHandle" ∧ (parseMethodDescriptor yX8_neverTakes.desc).map (fun d => d.parameters.length) = some 1 := by decide +kernel
theorem yv_X8_taken : yX8_taken.cls = RX8 ∧ yX8_taken.cls ≠ "java/lang/invoke/MethodHandle" ∧ yX8_taken.cls ≠ "java/lang/invoke/VarHandle" ∧ (parseMethodDescriptor yX8_taken.desc).map (fun d => d.parameters.length) = some 6 := by decide +kernel
theorem yv_X8_answerForces : yX8_answerForces.cls = RX8 ∧ yX8_answerForces.cls ≠ "java/lang/invoke/MethodHandle" ∧ yX8_answerForces.cls ≠ "java/lang/invoke/VarHandle" ∧ (parseMethodDescriptor yX8_answerForces.desc).map (fun d => d.parameters.length) = some 4 := by decide +kernel
theorem yv_X0_findBid : yX0_findBid.cls = RX0 ∧ yX0_findBid.cls ≠ "java/lang/invoke/MethodHandle" ∧ yX0_findBid.cls ≠ "java/lang/invoke/VarHandle" ∧ (parseMethodDescriptor yX0_findBid.desc).map (fun d => d.parameters.length) = some 1 := by decide +kernel
theorem yv_X0_longestOwn : yX0_longestOwn.cls = RX0 ∧ yX0_longestOwn.cls ≠ "java/lang/invoke/MethodHandle" ∧ yX0_longestOwn.cls ≠ "java/lang/invoke/VarHandle" ∧ (parseMethodDescriptor yX0_longestOwn.desc).map (fun d => d.parameters.length) = some 2 := by decide +kernel
theorem yv_X0_timeBehind : yX0_timeBehind.cls = RX0 ∧ yX0_timeBehind.cls ≠ "java/lang/invoke/MethodHandle" ∧ yX0_timeBehind.cls ≠ "java/lang/invoke/VarHandle" ∧ (parseMethodDescriptor yX0_timeBehind.desc).map (fun d => d.parameters.length) = some 4 := by decide +kernel
theorem yv_X2_toWin : yX2_toWin.cls = RX2 ∧ yX2_toWin.cls ≠ "java/lang/invoke/MethodHandle" ∧ yX2_toWin.cls ≠ "java/lang/invoke/VarHandle" ∧ (parseMethodDescriptor yX2_toWin.desc).map (fun d => d.parameters.length) = some 1 := by decide +kernel
theorem yv_X0_findDelay : yX0_findDelay.cls = RX0 ∧ yX0_findDelay.cls ≠ "java/lang/invoke/MethodHandle" ∧ yX0_findDelay.cls ≠ "java/lang/invoke/VarHandle" ∧ (parseMethodDescriptor yX0_findDelay.desc).map (fun d => d.parameters.length) = some 1 := by decide +kernel
theorem yv_X0_leastOther : yX0_leastOther.cls = RX0 ∧ yX0_leastOther.cls ≠ "java/lang/invoke/MethodHandle" ∧ yX0_leastOther.cls ≠ "java/lang/invoke/VarHandle" ∧ (parseMethodDescriptor yX0_leastOther.desc).map (fun d => d.parameters.length) = some 2 := by decide +kernel
theorem yv_X0_findAnswer : yX0_findAnswer.cls = RX0 ∧ yX0_findAnswer.cls ≠ "java/lang/invoke/MethodHandle" ∧ yX0_findAnswer.cls ≠ "java/lang/invoke/VarHandle" ∧ (parseMethodDescriptor yX0_findAnswer.desc).map (fun d => d.parameters.length) = some 2 := by decide +kernel
theorem yv_X9_run : yX9_run.cls = RX9 ∧ yX9_run.cls ≠ "java/lang/invoke/MethodHandle" ∧ yX9_run.cls ≠ "java/lang/invoke/VarHandle" ∧ (parseMethodDescriptor yX9_run.desc).map (fun d => d.parameters.length) = some 0 := by decide +kernel
theorem yv_X5_firstFault : yX5_firstFault.cls = RX5 ∧ yX5_firstFault.cls ≠ "java/lang/invoke/MethodHandle" ∧ yX5_firstFault.cls ≠ "java/lang/invoke/VarHandle" ∧ (parseMethodDescriptor yX5_firstFault.desc).map (fun d => d.parameters.length) = some 0 := by decide +kernel
theorem yv_X5_signAt : yX5_signAt.cls = RX5 ∧ yX5_signAt.cls ≠ "java/lang/invoke/MethodHandle" ∧ yX5_signAt.cls ≠ "java/lang/invoke/VarHandle" ∧ (parseMethodDescriptor yX5_signAt.desc).map (fun d => d.parameters.length) = some 1 := by decide +kernel
theorem yv_X5_canStandAsDigit : yX5_canStandAsDigit.cls = RX5 ∧ yX5_canStandAsDigit.cls ≠ "java/lang/invoke/MethodHandle" ∧ yX5_canStandAsDigit.cls ≠ "java/lang/invoke/VarHandle" ∧ (parseMethodDescriptor yX5_canStandAsDigit.desc).map (fun d => d.parameters.length) = some 2 := by decide +kernel
theorem yv_X9_playPad : yX9_playPad.cls = RX9 ∧ yX9_playPad.cls ≠ "java/lang/invoke/MethodHandle" ∧ yX9_playPad.cls ≠ "java/lang/invoke/VarHandle" ∧ (parseMethodDescriptor yX9_playPad.desc).map (fun d => d.parameters.length) = some 0 := by decide +kernel
theorem yv_X5_clear : yX5_clear.cls = RX5 ∧ yX5_clear.cls ≠ "java/lang/invoke/MethodHandle" ∧ yX5_clear.cls ≠ "java/lang/invoke/VarHandle" ∧ (parseMethodDescriptor yX5_clear.desc).map (fun d => d.parameters.length) = some 0 := by decide +kernel
theorem yv_X9_player : yX9_player.cls = RX9 ∧ yX9_player.cls ≠ "java/lang/invoke/MethodHandle" ∧ yX9_player.cls ≠ "java/lang/invoke/VarHandle" ∧ (parseMethodDescriptor yX9_player.desc).map (fun d => d.parameters.length) = some 2 := by decide +kernel
theorem yv_X9_isPlayer : yX9_isPlayer.cls = RX9 ∧ yX9_isPlayer.cls ≠ "java/lang/invoke/MethodHandle" ∧ yX9_isPlayer.cls ≠ "java/lang/invoke/VarHandle" ∧ (parseMethodDescriptor yX9_isPlayer.desc).map (fun d => d.parameters.length) = some 1 := by decide +kernel
theorem yv_X9_timeWith : yX9_timeWith.cls = RX9 ∧ yX9_timeWith.cls ≠ "java/lang/invoke/MethodHandle" ∧ yX9_timeWith.cls ≠ "java/lang/invoke/VarHandle" ∧ (parseMethodDescriptor yX9_timeWith.desc).map (fun d => d.parameters.length) = some 2 := by decide +kernel
theorem yv_X9_count : yX9_count.cls = RX9 ∧ yX9_count.cls ≠ "java/lang/invoke/MethodHandle" ∧ yX9_count.cls ≠ "java/lang/invoke/VarHandle" ∧ (parseMethodDescriptor yX9_count.desc).map (fun d => d.parameters.length) = some 1 := by decide +kernel
theorem yv_X9_forced : yX9_forced.cls = RX9 ∧ yX9_forced.cls ≠ "java/lang/invoke/MethodHandle" ∧ yX9_forced.cls ≠ "java/lang/invoke/VarHandle" ∧ (parseMethodDescriptor yX9_forced.desc).map (fun d => d.parameters.length) = some 2 := by decide +kernel
theorem yv_X9_ahead : yX9_ahead.cls = RX9 ∧ yX9_ahead.cls ≠ "java/lang/invoke/MethodHandle" ∧ yX9_ahead.cls ≠ "java/lang/invoke/VarHandle" ∧ (parseMethodDescriptor yX9_ahead.desc).map (fun d => d.parameters.length) = some 2 := by decide +kernel
theorem yv_X1_seesWinOf : yX1_seesWinOf.cls = RX1 ∧ yX1_seesWinOf.cls ≠ "java/lang/invoke/MethodHandle" ∧ yX1_seesWinOf.cls ≠ "java/lang/invoke/VarHandle" ∧ (parseMethodDescriptor yX1_seesWinOf.desc).map (fun d => d.parameters.length) = some 2 := by decide +kernel
theorem yv_X1_seesWin : yX1_seesWin.cls = RX1 ∧ yX1_seesWin.cls ≠ "java/lang/invoke/MethodHandle" ∧ yX1_seesWin.cls ≠ "java/lang/invoke/VarHandle" ∧ (parseMethodDescriptor yX1_seesWin.desc).map (fun d => d.parameters.length) = some 5 := by decide +kernel
theorem yv_X1_seesBid : yX1_seesBid.cls = RX1 ∧ yX1_seesBid.cls ≠ "java/lang/invoke/MethodHandle" ∧ yX1_seesBid.cls ≠ "java/lang/invoke/VarHandle" ∧ (parseMethodDescriptor yX1_seesBid.desc).map (fun d => d.parameters.length) = some 4 := by decide +kernel
theorem yv_X1_standsAllAnswers : yX1_standsAllAnswers.cls = RX1 ∧ yX1_standsAllAnswers.cls ≠ "java/lang/invoke/MethodHandle" ∧ yX1_standsAllAnswers.cls ≠ "java/lang/invoke/VarHandle" ∧ (parseMethodDescriptor yX1_standsAllAnswers.desc).map (fun d => d.parameters.length) = some 5 := by decide +kernel
theorem yv_X1_canTake : yX1_canTake.cls = RX1 ∧ yX1_canTake.cls ≠ "java/lang/invoke/MethodHandle" ∧ yX1_canTake.cls ≠ "java/lang/invoke/VarHandle" ∧ (parseMethodDescriptor yX1_canTake.desc).map (fun d => d.parameters.length) = some 1 := by decide +kernel
theorem yv_X1_seesTaken : yX1_seesTaken.cls = RX1 ∧ yX1_seesTaken.cls ≠ "java/lang/invoke/MethodHandle" ∧ yX1_seesTaken.cls ≠ "java/lang/invoke/VarHandle" ∧ (parseMethodDescriptor yX1_seesTaken.desc).map (fun d => d.parameters.length) = some 6 := by decide +kernel
theorem yv_X1_leastTaking : yX1_leastTaking.cls = RX1 ∧ yX1_leastTaking.cls ≠ "java/lang/invoke/MethodHandle" ∧ yX1_leastTaking.cls ≠ "java/lang/invoke/VarHandle" ∧ (parseMethodDescriptor yX1_leastTaking.desc).map (fun d => d.parameters.length) = some 1 := by decide +kernel
theorem yv_X1_seesLost : yX1_seesLost.cls = RX1 ∧ yX1_seesLost.cls ≠ "java/lang/invoke/MethodHandle" ∧ yX1_seesLost.cls ≠ "java/lang/invoke/VarHandle" ∧ (parseMethodDescriptor yX1_seesLost.desc).map (fun d => d.parameters.length) = some 6 := by decide +kernel
theorem yv_X1_seesAnswers : yX1_seesAnswers.cls = RX1 ∧ yX1_seesAnswers.cls ≠ "java/lang/invoke/MethodHandle" ∧ yX1_seesAnswers.cls ≠ "java/lang/invoke/VarHandle" ∧ (parseMethodDescriptor yX1_seesAnswers.desc).map (fun d => d.parameters.length) = some 4 := by decide +kernel
theorem yv_X1_hasAnswer : yX1_hasAnswer.cls = RX1 ∧ yX1_hasAnswer.cls ≠ "java/lang/invoke/MethodHandle" ∧ yX1_hasAnswer.cls ≠ "java/lang/invoke/VarHandle" ∧ (parseMethodDescriptor yX1_hasAnswer.desc).map (fun d => d.parameters.length) = some 5 := by decide +kernel
theorem yv_X9_bestBid : yX9_bestBid.cls = RX9 ∧ yX9_bestBid.cls ≠ "java/lang/invoke/MethodHandle" ∧ yX9_bestBid.cls ≠ "java/lang/invoke/VarHandle" ∧ (parseMethodDescriptor yX9_bestBid.desc).map (fun d => d.parameters.length) = some 0 := by decide +kernel
theorem yv_X9_bestAnswer : yX9_bestAnswer.cls = RX9 ∧ yX9_bestAnswer.cls ≠ "java/lang/invoke/MethodHandle" ∧ yX9_bestAnswer.cls ≠ "java/lang/invoke/VarHandle" ∧ (parseMethodDescriptor yX9_bestAnswer.desc).map (fun d => d.parameters.length) = some 1 := by decide +kernel
theorem yv_X9_keeps : yX9_keeps.cls = RX9 ∧ yX9_keeps.cls ≠ "java/lang/invoke/MethodHandle" ∧ yX9_keeps.cls ≠ "java/lang/invoke/VarHandle" ∧ (parseMethodDescriptor yX9_keeps.desc).map (fun d => d.parameters.length) = some 0 := by decide +kernel
theorem yv_X0_countKeeping : yX0_countKeeping.cls = RX0 ∧ yX0_countKeeping.cls ≠ "java/lang/invoke/MethodHandle" ∧ yX0_countKeeping.cls ≠ "java/lang/invoke/VarHandle" ∧ (parseMethodDescriptor yX0_countKeeping.desc).map (fun d => d.parameters.length) = some 1 := by decide +kernel
theorem yv_X9_leastHours : yX9_leastHours.cls = RX9 ∧ yX9_leastHours.cls ≠ "java/lang/invoke/MethodHandle" ∧ yX9_leastHours.cls ≠ "java/lang/invoke/VarHandle" ∧ (parseMethodDescriptor yX9_leastHours.desc).map (fun d => d.parameters.length) = some 1 := by decide +kernel
theorem yv_X9_put : yX9_put.cls = RX9 ∧ yX9_put.cls ≠ "java/lang/invoke/MethodHandle" ∧ yX9_put.cls ≠ "java/lang/invoke/VarHandle" ∧ (parseMethodDescriptor yX9_put.desc).map (fun d => d.parameters.length) = some 1 := by decide +kernel
theorem yv_X5_countSigns : yX5_countSigns.cls = RX5 ∧ yX5_countSigns.cls ≠ "java/lang/invoke/MethodHandle" ∧ yX5_countSigns.cls ≠ "java/lang/invoke/VarHandle" ∧ (parseMethodDescriptor yX5_countSigns.desc).map (fun d => d.parameters.length) = some 1 := by decide +kernel
theorem yv_X5_append : yX5_append.cls = RX5 ∧ yX5_append.cls ≠ "java/lang/invoke/MethodHandle" ∧ yX5_append.cls ≠ "java/lang/invoke/VarHandle" ∧ (parseMethodDescriptor yX5_append.desc).map (fun d => d.parameters.length) = some 2 := by decide +kernel
theorem yv_X9_wipe : yX9_wipe.cls = RX9 ∧ yX9_wipe.cls ≠ "java/lang/invoke/MethodHandle" ∧ yX9_wipe.cls ≠ "java/lang/invoke/VarHandle" ∧ (parseMethodDescriptor yX9_wipe.desc).map (fun d => d.parameters.length) = some 0 := by decide +kernel
theorem yv_X9_fault : yX9_fault.cls = RX9 ∧ yX9_fault.cls ≠ "java/lang/invoke/MethodHandle" ∧ yX9_fault.cls ≠ "java/lang/invoke/VarHandle" ∧ (parseMethodDescriptor yX9_fault.desc).map (fun d => d.parameters.length) = some 0 := by decide +kernel
theorem yv_X9_undo : yX9_undo.cls = RX9 ∧ yX9_undo.cls ≠ "java/lang/invoke/MethodHandle" ∧ yX9_undo.cls ≠ "java/lang/invoke/VarHandle" ∧ (parseMethodDescriptor yX9_undo.desc).map (fun d => d.parameters.length) = some 0 := by decide +kernel
theorem yv_X3_takeBack : yX3_takeBack.cls = RX3 ∧ yX3_takeBack.cls ≠ "java/lang/invoke/MethodHandle" ∧ yX3_takeBack.cls ≠ "java/lang/invoke/VarHandle" ∧ (parseMethodDescriptor yX3_takeBack.desc).map (fun d => d.parameters.length) = some 1 := by decide +kernel
theorem yv_X9_save : yX9_save.cls = RX9 ∧ yX9_save.cls ≠ "java/lang/invoke/MethodHandle" ∧ yX9_save.cls ≠ "java/lang/invoke/VarHandle" ∧ (parseMethodDescriptor yX9_save.desc).map (fun d => d.parameters.length) = some 1 := by decide +kernel
theorem yv_X9_isSlot : yX9_isSlot.cls = RX9 ∧ yX9_isSlot.cls ≠ "java/lang/invoke/MethodHandle" ∧ yX9_isSlot.cls ≠ "java/lang/invoke/VarHandle" ∧ (parseMethodDescriptor yX9_isSlot.desc).map (fun d => d.parameters.length) = some 1 := by decide +kernel
theorem yv_X9_slotOf : yX9_slotOf.cls = RX9 ∧ yX9_slotOf.cls ≠ "java/lang/invoke/MethodHandle" ∧ yX9_slotOf.cls ≠ "java/lang/invoke/VarHandle" ∧ (parseMethodDescriptor yX9_slotOf.desc).map (fun d => d.parameters.length) = some 1 := by decide +kernel
theorem yv_X9_restore : yX9_restore.cls = RX9 ∧ yX9_restore.cls ≠ "java/lang/invoke/MethodHandle" ∧ yX9_restore.cls ≠ "java/lang/invoke/VarHandle" ∧ (parseMethodDescriptor yX9_restore.desc).map (fun d => d.parameters.length) = some 1 := by decide +kernel
theorem yv_X10_init : yX10_init.name = "<init>" ∧ yX10_init.cls ≠ "java/lang/invoke/MethodHandle" ∧ yX10_init.cls ≠ "java/lang/invoke/VarHandle" ∧ (parseMethodDescriptor yX10_init.desc).map (fun d => d.parameters.length) = some 0 := by decide +kernel
theorem yv_X10_newGame : yX10_newGame.cls = RX10 ∧ yX10_newGame.cls ≠ "java/lang/invoke/MethodHandle" ∧ yX10_newGame.cls ≠ "java/lang/invoke/VarHandle" ∧ (parseMethodDescriptor yX10_newGame.desc).map (fun d => d.parameters.length) = some 0 := by decide +kernel
theorem yv_X10_set : yX10_set.cls = RX10 ∧ yX10_set.cls ≠ "java/lang/invoke/MethodHandle" ∧ yX10_set.cls ≠ "java/lang/invoke/VarHandle" ∧ (parseMethodDescriptor yX10_set.desc).map (fun d => d.parameters.length) = some 2 := by decide +kernel
theorem yv_X10_isSetting : yX10_isSetting.cls = RX10 ∧ yX10_isSetting.cls ≠ "java/lang/invoke/MethodHandle" ∧ yX10_isSetting.cls ≠ "java/lang/invoke/VarHandle" ∧ (parseMethodDescriptor yX10_isSetting.desc).map (fun d => d.parameters.length) = some 2 := by decide +kernel
theorem yv_X10_in : yX10_in.cls = RX10 ∧ yX10_in.cls ≠ "java/lang/invoke/MethodHandle" ∧ yX10_in.cls ≠ "java/lang/invoke/VarHandle" ∧ (parseMethodDescriptor yX10_in.desc).map (fun d => d.parameters.length) = some 3 := by decide +kernel
theorem yv_X10_changes : yX10_changes.cls = RX10 ∧ yX10_changes.cls ≠ "java/lang/invoke/MethodHandle" ∧ yX10_changes.cls ≠ "java/lang/invoke/VarHandle" ∧ (parseMethodDescriptor yX10_changes.desc).map (fun d => d.parameters.length) = some 0 := by decide +kernel
theorem yv_X10_begin : yX10_begin.cls = RX10 ∧ yX10_begin.cls ≠ "java/lang/invoke/MethodHandle" ∧ yX10_begin.cls ≠ "java/lang/invoke/VarHandle" ∧ (parseMethodDescriptor yX10_begin.desc).map (fun d => d.parameters.length) = some 2 := by decide +kernel
theorem yv_X10_round : yX10_round.cls = RX10 ∧ yX10_round.cls ≠ "java/lang/invoke/MethodHandle" ∧ yX10_round.cls ≠ "java/lang/invoke/VarHandle" ∧ (parseMethodDescriptor yX10_round.desc).map (fun d => d.parameters.length) = some 2 := by decide +kernel
theorem yv_X10_canPlay : yX10_canPlay.cls = RX10 ∧ yX10_canPlay.cls ≠ "java/lang/invoke/MethodHandle" ∧ yX10_canPlay.cls ≠ "java/lang/invoke/VarHandle" ∧ (parseMethodDescriptor yX10_canPlay.desc).map (fun d => d.parameters.length) = some 2 := by decide +kernel
theorem yv_X10_isOver : yX10_isOver.cls = RX10 ∧ yX10_isOver.cls ≠ "java/lang/invoke/MethodHandle" ∧ yX10_isOver.cls ≠ "java/lang/invoke/VarHandle" ∧ (parseMethodDescriptor yX10_isOver.desc).map (fun d => d.parameters.length) = some 0 := by decide +kernel
theorem yv_X10_winnerAt : yX10_winnerAt.cls = RX10 ∧ yX10_winnerAt.cls ≠ "java/lang/invoke/MethodHandle" ∧ yX10_winnerAt.cls ≠ "java/lang/invoke/VarHandle" ∧ (parseMethodDescriptor yX10_winnerAt.desc).map (fun d => d.parameters.length) = some 1 := by decide +kernel
theorem yv_X10_most : yX10_most.cls = RX10 ∧ yX10_most.cls ≠ "java/lang/invoke/MethodHandle" ∧ yX10_most.cls ≠ "java/lang/invoke/VarHandle" ∧ (parseMethodDescriptor yX10_most.desc).map (fun d => d.parameters.length) = some 1 := by decide +kernel
theorem yv_X10_plays : yX10_plays.cls = RX10 ∧ yX10_plays.cls ≠ "java/lang/invoke/MethodHandle" ∧ yX10_plays.cls ≠ "java/lang/invoke/VarHandle" ∧ (parseMethodDescriptor yX10_plays.desc).map (fun d => d.parameters.length) = some 2 := by decide +kernel
theorem yv_X10_taker : yX10_taker.cls = RX10 ∧ yX10_taker.cls ≠ "java/lang/invoke/MethodHandle" ∧ yX10_taker.cls ≠ "java/lang/invoke/VarHandle" ∧ (parseMethodDescriptor yX10_taker.desc).map (fun d => d.parameters.length) = some 3 := by decide +kernel
theorem yv_X10_play : yX10_play.cls = RX10 ∧ yX10_play.cls ≠ "java/lang/invoke/MethodHandle" ∧ yX10_play.cls ≠ "java/lang/invoke/VarHandle" ∧ (parseMethodDescriptor yX10_play.desc).map (fun d => d.parameters.length) = some 0 := by decide +kernel
theorem yv_X10_bestBid : yX10_bestBid.cls = RX10 ∧ yX10_bestBid.cls ≠ "java/lang/invoke/MethodHandle" ∧ yX10_bestBid.cls ≠ "java/lang/invoke/VarHandle" ∧ (parseMethodDescriptor yX10_bestBid.desc).map (fun d => d.parameters.length) = some 0 := by decide +kernel
theorem yv_X10_knows : yX10_knows.cls = RX10 ∧ yX10_knows.cls ≠ "java/lang/invoke/MethodHandle" ∧ yX10_knows.cls ≠ "java/lang/invoke/VarHandle" ∧ (parseMethodDescriptor yX10_knows.desc).map (fun d => d.parameters.length) = some 1 := by decide +kernel
theorem yv_X10_worksOutAll : yX10_worksOutAll.cls = RX10 ∧ yX10_worksOutAll.cls ≠ "java/lang/invoke/MethodHandle" ∧ yX10_worksOutAll.cls ≠ "java/lang/invoke/VarHandle" ∧ (parseMethodDescriptor yX10_worksOutAll.desc).map (fun d => d.parameters.length) = some 2 := by decide +kernel
theorem yv_X10_lowest : yX10_lowest.cls = RX10 ∧ yX10_lowest.cls ≠ "java/lang/invoke/MethodHandle" ∧ yX10_lowest.cls ≠ "java/lang/invoke/VarHandle" ∧ (parseMethodDescriptor yX10_lowest.desc).map (fun d => d.parameters.length) = some 0 := by decide +kernel
theorem yv_X10_worksOut : yX10_worksOut.cls = RX10 ∧ yX10_worksOut.cls ≠ "java/lang/invoke/MethodHandle" ∧ yX10_worksOut.cls ≠ "java/lang/invoke/VarHandle" ∧ (parseMethodDescriptor yX10_worksOut.desc).map (fun d => d.parameters.length) = some 3 := by decide +kernel
theorem yv_X10_at : yX10_at.cls = RX10 ∧ yX10_at.cls ≠ "java/lang/invoke/MethodHandle" ∧ yX10_at.cls ≠ "java/lang/invoke/VarHandle" ∧ (parseMethodDescriptor yX10_at.desc).map (fun d => d.parameters.length) = some 5 := by decide +kernel
theorem yv_X10_canForce : yX10_canForce.cls = RX10 ∧ yX10_canForce.cls ≠ "java/lang/invoke/MethodHandle" ∧ yX10_canForce.cls ≠ "java/lang/invoke/VarHandle" ∧ (parseMethodDescriptor yX10_canForce.desc).map (fun d => d.parameters.length) = some 6 := by decide +kernel
theorem yv_X10_behind : yX10_behind.cls = RX10 ∧ yX10_behind.cls ≠ "java/lang/invoke/MethodHandle" ∧ yX10_behind.cls ≠ "java/lang/invoke/VarHandle" ∧ (parseMethodDescriptor yX10_behind.desc).map (fun d => d.parameters.length) = some 7 := by decide +kernel
theorem yv_X10_worstBehind : yX10_worstBehind.cls = RX10 ∧ yX10_worstBehind.cls ≠ "java/lang/invoke/MethodHandle" ∧ yX10_worstBehind.cls ≠ "java/lang/invoke/VarHandle" ∧ (parseMethodDescriptor yX10_worstBehind.desc).map (fun d => d.parameters.length) = some 1 := by decide +kernel
theorem yv_X10_timeBehind : yX10_timeBehind.cls = RX10 ∧ yX10_timeBehind.cls ≠ "java/lang/invoke/MethodHandle" ∧ yX10_timeBehind.cls ≠ "java/lang/invoke/VarHandle" ∧ (parseMethodDescriptor yX10_timeBehind.desc).map (fun d => d.parameters.length) = some 3 := by decide +kernel
theorem yv_X10_othersBehind : yX10_othersBehind.cls = RX10 ∧ yX10_othersBehind.cls ≠ "java/lang/invoke/MethodHandle" ∧ yX10_othersBehind.cls ≠ "java/lang/invoke/VarHandle" ∧ (parseMethodDescriptor yX10_othersBehind.desc).map (fun d => d.parameters.length) = some 1 := by decide +kernel
theorem yv_X10_answerTo : yX10_answerTo.cls = RX10 ∧ yX10_answerTo.cls ≠ "java/lang/invoke/MethodHandle" ∧ yX10_answerTo.cls ≠ "java/lang/invoke/VarHandle" ∧ (parseMethodDescriptor yX10_answerTo.desc).map (fun d => d.parameters.length) = some 1 := by decide +kernel
theorem yv_X10_player : yX10_player.cls = RX10 ∧ yX10_player.cls ≠ "java/lang/invoke/MethodHandle" ∧ yX10_player.cls ≠ "java/lang/invoke/VarHandle" ∧ (parseMethodDescriptor yX10_player.desc).map (fun d => d.parameters.length) = some 2 := by decide +kernel
theorem yv_X10_isPlayer : yX10_isPlayer.cls = RX10 ∧ yX10_isPlayer.cls ≠ "java/lang/invoke/MethodHandle" ∧ yX10_isPlayer.cls ≠ "java/lang/invoke/VarHandle" ∧ (parseMethodDescriptor yX10_isPlayer.desc).map (fun d => d.parameters.length) = some 1 := by decide +kernel
theorem yv_X10_timeOf : yX10_timeOf.cls = RX10 ∧ yX10_timeOf.cls ≠ "java/lang/invoke/MethodHandle" ∧ yX10_timeOf.cls ≠ "java/lang/invoke/VarHandle" ∧ (parseMethodDescriptor yX10_timeOf.desc).map (fun d => d.parameters.length) = some 1 := by decide +kernel
theorem yv_X10_timeWith : yX10_timeWith.cls = RX10 ∧ yX10_timeWith.cls ≠ "java/lang/invoke/MethodHandle" ∧ yX10_timeWith.cls ≠ "java/lang/invoke/VarHandle" ∧ (parseMethodDescriptor yX10_timeWith.desc).map (fun d => d.parameters.length) = some 3 := by decide +kernel
theorem yv_X10_count : yX10_count.cls = RX10 ∧ yX10_count.cls ≠ "java/lang/invoke/MethodHandle" ∧ yX10_count.cls ≠ "java/lang/invoke/VarHandle" ∧ (parseMethodDescriptor yX10_count.desc).map (fun d => d.parameters.length) = some 1 := by decide +kernel
theorem yv_X10_forced : yX10_forced.cls = RX10 ∧ yX10_forced.cls ≠ "java/lang/invoke/MethodHandle" ∧ yX10_forced.cls ≠ "java/lang/invoke/VarHandle" ∧ (parseMethodDescriptor yX10_forced.desc).map (fun d => d.parameters.length) = some 2 := by decide +kernel
theorem yv_X10_ahead : yX10_ahead.cls = RX10 ∧ yX10_ahead.cls ≠ "java/lang/invoke/MethodHandle" ∧ yX10_ahead.cls ≠ "java/lang/invoke/VarHandle" ∧ (parseMethodDescriptor yX10_ahead.desc).map (fun d => d.parameters.length) = some 2 := by decide +kernel
theorem yv_X10_bestAnswer : yX10_bestAnswer.cls = RX10 ∧ yX10_bestAnswer.cls ≠ "java/lang/invoke/MethodHandle" ∧ yX10_bestAnswer.cls ≠ "java/lang/invoke/VarHandle" ∧ (parseMethodDescriptor yX10_bestAnswer.desc).map (fun d => d.parameters.length) = some 1 := by decide +kernel
theorem yv_X10_keeps : yX10_keeps.cls = RX10 ∧ yX10_keeps.cls ≠ "java/lang/invoke/MethodHandle" ∧ yX10_keeps.cls ≠ "java/lang/invoke/VarHandle" ∧ (parseMethodDescriptor yX10_keeps.desc).map (fun d => d.parameters.length) = some 0 := by decide +kernel
theorem yv_X10_leastHours : yX10_leastHours.cls = RX10 ∧ yX10_leastHours.cls ≠ "java/lang/invoke/MethodHandle" ∧ yX10_leastHours.cls ≠ "java/lang/invoke/VarHandle" ∧ (parseMethodDescriptor yX10_leastHours.desc).map (fun d => d.parameters.length) = some 1 := by decide +kernel
theorem yv_X10_put : yX10_put.cls = RX10 ∧ yX10_put.cls ≠ "java/lang/invoke/MethodHandle" ∧ yX10_put.cls ≠ "java/lang/invoke/VarHandle" ∧ (parseMethodDescriptor yX10_put.desc).map (fun d => d.parameters.length) = some 1 := by decide +kernel
theorem yv_X10_charactersOf : yX10_charactersOf.cls = RX10 ∧ yX10_charactersOf.cls ≠ "java/lang/invoke/MethodHandle" ∧ yX10_charactersOf.cls ≠ "java/lang/invoke/VarHandle" ∧ (parseMethodDescriptor yX10_charactersOf.desc).map (fun d => d.parameters.length) = some 1 := by decide +kernel
theorem yv_X10_wipe : yX10_wipe.cls = RX10 ∧ yX10_wipe.cls ≠ "java/lang/invoke/MethodHandle" ∧ yX10_wipe.cls ≠ "java/lang/invoke/VarHandle" ∧ (parseMethodDescriptor yX10_wipe.desc).map (fun d => d.parameters.length) = some 0 := by decide +kernel
theorem yv_X10_fault : yX10_fault.cls = RX10 ∧ yX10_fault.cls ≠ "java/lang/invoke/MethodHandle" ∧ yX10_fault.cls ≠ "java/lang/invoke/VarHandle" ∧ (parseMethodDescriptor yX10_fault.desc).map (fun d => d.parameters.length) = some 0 := by decide +kernel
theorem yv_X10_readsRound : yX10_readsRound.cls = RX10 ∧ yX10_readsRound.cls ≠ "java/lang/invoke/MethodHandle" ∧ yX10_readsRound.cls ≠ "java/lang/invoke/VarHandle" ∧ (parseMethodDescriptor yX10_readsRound.desc).map (fun d => d.parameters.length) = some 0 := by decide +kernel
theorem yv_X10_readsBid : yX10_readsBid.cls = RX10 ∧ yX10_readsBid.cls ≠ "java/lang/invoke/MethodHandle" ∧ yX10_readsBid.cls ≠ "java/lang/invoke/VarHandle" ∧ (parseMethodDescriptor yX10_readsBid.desc).map (fun d => d.parameters.length) = some 0 := by decide +kernel
theorem yv_X10_isHere : yX10_isHere.cls = RX10 ∧ yX10_isHere.cls ≠ "java/lang/invoke/MethodHandle" ∧ yX10_isHere.cls ≠ "java/lang/invoke/VarHandle" ∧ (parseMethodDescriptor yX10_isHere.desc).map (fun d => d.parameters.length) = some 2 := by decide +kernel
theorem yv_X10_takesOne : yX10_takesOne.cls = RX10 ∧ yX10_takesOne.cls ≠ "java/lang/invoke/MethodHandle" ∧ yX10_takesOne.cls ≠ "java/lang/invoke/VarHandle" ∧ (parseMethodDescriptor yX10_takesOne.desc).map (fun d => d.parameters.length) = some 1 := by decide +kernel
theorem yv_X10_run : yX10_run.cls = RX10 ∧ yX10_run.cls ≠ "java/lang/invoke/MethodHandle" ∧ yX10_run.cls ≠ "java/lang/invoke/VarHandle" ∧ (parseMethodDescriptor yX10_run.desc).map (fun d => d.parameters.length) = some 0 := by decide +kernel
theorem yv_X10_undo : yX10_undo.cls = RX10 ∧ yX10_undo.cls ≠ "java/lang/invoke/MethodHandle" ∧ yX10_undo.cls ≠ "java/lang/invoke/VarHandle" ∧ (parseMethodDescriptor yX10_undo.desc).map (fun d => d.parameters.length) = some 0 := by decide +kernel
theorem yv_X10_save : yX10_save.cls = RX10 ∧ yX10_save.cls ≠ "java/lang/invoke/MethodHandle" ∧ yX10_save.cls ≠ "java/lang/invoke/VarHandle" ∧ (parseMethodDescriptor yX10_save.desc).map (fun d => d.parameters.length) = some 1 := by decide +kernel
theorem yv_X10_restore : yX10_restore.cls = RX10 ∧ yX10_restore.cls ≠ "java/lang/invoke/MethodHandle" ∧ yX10_restore.cls ≠ "java/lang/invoke/VarHandle" ∧ (parseMethodDescriptor yX10_restore.desc).map (fun d => d.parameters.length) = some 1 := by decide +kernel
end
