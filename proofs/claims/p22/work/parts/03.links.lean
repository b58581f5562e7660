theorem mU {w : Cond} (h : w ∈ lw_tbl) (hg : goodWord w = true) : w ∈ wsU := List.mem_filter.mpr ⟨h, hg⟩
theorem t1m {w : Cond} (h : w ∈ tables_1_1) : w ∈ lw_tbl := List.mem_append_right _ (List.mem_append_left _ h)
theorem t2m {w : Cond} (h : w ∈ tables_1_2) : w ∈ lw_tbl := List.mem_append_right _ (List.mem_append_right _ (List.mem_append_left _ h))
theorem t3m {w : Cond} (h : w ∈ tables_1_3) : w ∈ lw_tbl := List.mem_append_right _ (List.mem_append_right _ (List.mem_append_right _ h))
theorem gU {w : Cond} (h : w ∈ wsU) : w ∈ wsU ∧ ((w.onTables && w.keeps) = true ∨ ∃ ty, w = .arrayClass ty) := ⟨h, good_of_word (List.mem_filter.mp h).2⟩
theorem good_C {w : Cond} (h : w ∈ wsU) : GoodIn wsU (w :: wsU) := fun x hx => (List.mem_cons.mp hx).elim (fun e => by rw [e]; exact gU h) gU
theorem good_V {own C : String} {ix : Nat} {y : MethodName} {w : Cond} (h1 : Cond.methodLink own ix y ∈ wsU) (h2 : Cond.instanceMethod y ∈ wsU) (h3 : Cond.selects C y y ∈ wsU) (h4 : Cond.initialized C ∈ wsU) (h5 : w ∈ wsU) : GoodIn wsU (wsV own ix C y (w :: wsU)) := by
  intro x hx
  unfold wsV at hx
  rcases List.mem_append.mp hx with h | h
  · simp only [List.mem_cons, List.not_mem_nil, or_false] at h
    rcases h with rfl | rfl | rfl | rfl
    · exact gU h1
    · exact gU h2
    · exact gU h3
    · exact gU h4
  · exact good_C h5 x h
theorem good_S {own : String} {ix : Nat} {y : MethodName} {w : Cond} (h1 : Cond.methodLink own ix y ∈ wsU) (h2 : Cond.static y ∈ wsU) (h4 : Cond.initialized own ∈ wsU) (h5 : w ∈ wsU) : GoodIn wsU (wsS own ix y (w :: wsU)) := by
  intro x hx
  unfold wsS at hx
  rcases List.mem_append.mp hx with h | h
  · simp only [List.mem_cons, List.not_mem_nil, or_false] at h
    rcases h with rfl | rfl | rfl
    · exact gU h1
    · exact gU h2
    · exact gU h4
  · exact good_C h5 x h
theorem u_all {C : String} {T : u_T} {N : Nat} (h : ∀ k, k < N → u_lay C T k ∈ wsU) : ∀ w ∈ u_ws C T N, w ∈ wsU := by
  intro w hw
  unfold u_ws at hw
  obtain ⟨k, hk, rfl⟩ := List.mem_map.mp hw
  exact h k (List.mem_range.mp hk)
theorem ln_L : Cond.initialized RL ∈ wsU := mU (t1m (List.mem_of_getElem? (i := 0) rfl)) rfl
theorem ln_X9 : Cond.initialized RX9 ∈ wsU := mU (t1m (List.mem_of_getElem? (i := 1) rfl)) rfl
theorem ln_X2 : Cond.initialized RX2 ∈ wsU := mU (t1m (List.mem_of_getElem? (i := 2) rfl)) rfl
theorem ln_X6 : Cond.initialized RX6 ∈ wsU := mU (t1m (List.mem_of_getElem? (i := 3) rfl)) rfl
theorem ln_X3 : Cond.initialized RX3 ∈ wsU := mU (t1m (List.mem_of_getElem? (i := 4) rfl)) rfl
theorem ln_X7 : Cond.initialized RX7 ∈ wsU := mU (t1m (List.mem_of_getElem? (i := 5) rfl)) rfl
theorem ln_X5 : Cond.initialized RX5 ∈ wsU := mU (t1m (List.mem_of_getElem? (i := 6) rfl)) rfl
theorem ln_X4 : Cond.initialized RX4 ∈ wsU := mU (t1m (List.mem_of_getElem? (i := 7) rfl)) rfl
theorem ln_X0 : Cond.initialized RX0 ∈ wsU := mU (t1m (List.mem_of_getElem? (i := 8) rfl)) rfl
theorem ln_X1 : Cond.initialized RX1 ∈ wsU := mU (t1m (List.mem_of_getElem? (i := 9) rfl)) rfl
theorem ln_Math : Cond.initialized "java/lang/Math" ∈ wsU := mU (t1m (List.mem_of_getElem? (i := 10) rfl)) rfl
theorem ln_X8 : Cond.initialized RX8 ∈ wsU := mU (t1m (List.mem_of_getElem? (i := 11) rfl)) rfl
theorem ll_L_12 : Cond.classLink RL 12 RX9 ∈ wsU := mU (t1m (List.mem_of_getElem? (i := 12) rfl)) rfl
theorem lt_X9 : Cond.instantiable RX9 8 ∈ wsU := mU (t1m (List.mem_of_getElem? (i := 13) rfl)) rfl
theorem lm_L_87 : Cond.methodLink RL 87 yX9_init ∈ wsU := mU (t1m (List.mem_of_getElem? (i := 14) rfl)) rfl
theorem li_X9_init : Cond.instanceMethod yX9_init ∈ wsU := mU (t1m (List.mem_of_getElem? (i := 15) rfl)) rfl
theorem lc_X9_init : Cond.code yX9_init cX9_init 1 (Option.none : Option FieldType) ∈ wsU := mU (t1m (List.mem_of_getElem? (i := 16) rfl)) rfl
theorem lm_X9_3 : Cond.methodLink RX9 3 objectInit ∈ wsU := mU (t1m (List.mem_of_getElem? (i := 17) rfl)) rfl
theorem li_init_Object : Cond.instanceMethod objectInit ∈ wsU := mU (t1m (List.mem_of_getElem? (i := 18) rfl)) rfl
theorem lc_init_Object : Cond.code objectInit object_method_1_code 1 (Option.none : Option FieldType) ∈ wsU := mU (t1m (List.mem_of_getElem? (i := 19) rfl)) rfl
theorem ll_X9_9 : Cond.classLink RX9 9 RX2 ∈ wsU := mU (t1m (List.mem_of_getElem? (i := 20) rfl)) rfl
theorem lt_X2 : Cond.instantiable RX2 10 ∈ wsU := mU (t1m (List.mem_of_getElem? (i := 21) rfl)) rfl
theorem li_X2_init : Cond.instanceMethod yX2_init ∈ wsU := mU (t1m (List.mem_of_getElem? (i := 23) rfl)) rfl
theorem lc_X2_init : Cond.code yX2_init cX2_init 1 (Option.none : Option FieldType) ∈ wsU := mU (t1m (List.mem_of_getElem? (i := 24) rfl)) rfl
theorem lm_X2_3 : Cond.methodLink RX2 3 objectInit ∈ wsU := mU (t1m (List.mem_of_getElem? (i := 25) rfl)) rfl
theorem ll_X2_15 : Cond.classLink RX2 15 RX6 ∈ wsU := mU (t1m (List.mem_of_getElem? (i := 26) rfl)) rfl
theorem lt_X6 : Cond.instantiable RX6 5 ∈ wsU := mU (t1m (List.mem_of_getElem? (i := 27) rfl)) rfl
theorem li_X6_init : Cond.instanceMethod yX6_init ∈ wsU := mU (t1m (List.mem_of_getElem? (i := 29) rfl)) rfl
theorem lc_X6_init : Cond.code yX6_init cX6_init 1 (Option.none : Option FieldType) ∈ wsU := mU (t1m (List.mem_of_getElem? (i := 30) rfl)) rfl
theorem lm_X6_3 : Cond.methodLink RX6 3 objectInit ∈ wsU := mU (t1m (List.mem_of_getElem? (i := 31) rfl)) rfl
theorem lf_X6_9 : Cond.fieldLink RX6 9 "BorrowedHours$Side" "began" "I" ∈ wsU := mU (t1m (List.mem_of_getElem? (i := 32) rfl)) rfl
theorem lf_X9_99 : Cond.fieldLink RX9 99 "BorrowedHours$Side" "began" "I" ∈ wsU := mU (t1m (List.mem_of_getElem? (i := 33) rfl)) rfl
theorem lf_X6_15 : Cond.fieldLink RX6 15 "BorrowedHours$Side" "hours" "I" ∈ wsU := mU (t1m (List.mem_of_getElem? (i := 34) rfl)) rfl
theorem lf_X9_148 : Cond.fieldLink RX9 148 "BorrowedHours$Side" "hours" "I" ∈ wsU := mU (t1m (List.mem_of_getElem? (i := 35) rfl)) rfl
theorem lf_X2_61 : Cond.fieldLink RX2 61 "BorrowedHours$Side" "hours" "I" ∈ wsU := mU (t1m (List.mem_of_getElem? (i := 36) rfl)) rfl
theorem lf_X6_18 : Cond.fieldLink RX6 18 "BorrowedHours$Side" "paid" "I" ∈ wsU := mU (t1m (List.mem_of_getElem? (i := 37) rfl)) rfl
theorem lf_X9_154 : Cond.fieldLink RX9 154 "BorrowedHours$Side" "paid" "I" ∈ wsU := mU (t1m (List.mem_of_getElem? (i := 38) rfl)) rfl
theorem lf_X2_76 : Cond.fieldLink RX2 76 "BorrowedHours$Side" "paid" "I" ∈ wsU := mU (t1m (List.mem_of_getElem? (i := 39) rfl)) rfl
theorem lf_X6_21 : Cond.fieldLink RX6 21 "BorrowedHours$Side" "took" "I" ∈ wsU := mU (t1m (List.mem_of_getElem? (i := 40) rfl)) rfl
theorem lf_X9_157 : Cond.fieldLink RX9 157 "BorrowedHours$Side" "took" "I" ∈ wsU := mU (t1m (List.mem_of_getElem? (i := 41) rfl)) rfl
theorem lf_X2_79 : Cond.fieldLink RX2 79 "BorrowedHours$Side" "took" "I" ∈ wsU := mU (t1m (List.mem_of_getElem? (i := 42) rfl)) rfl
theorem lf_X6_24 : Cond.fieldLink RX6 24 "BorrowedHours$Side" "won" "I" ∈ wsU := mU (t1m (List.mem_of_getElem? (i := 43) rfl)) rfl
theorem lf_X9_160 : Cond.fieldLink RX9 160 "BorrowedHours$Side" "won" "I" ∈ wsU := mU (t1m (List.mem_of_getElem? (i := 44) rfl)) rfl
theorem lf_X2_85 : Cond.fieldLink RX2 85 "BorrowedHours$Side" "won" "I" ∈ wsU := mU (t1m (List.mem_of_getElem? (i := 45) rfl)) rfl
theorem ly_X6_began : Cond.lays "BorrowedHours$Side" "BorrowedHours$Side" "began" "I" ∈ wsU := mU (t1m (List.mem_of_getElem? (i := 46) rfl)) rfl
theorem ly_X6_hours : Cond.lays "BorrowedHours$Side" "BorrowedHours$Side" "hours" "I" ∈ wsU := mU (t1m (List.mem_of_getElem? (i := 48) rfl)) rfl
theorem ly_X6_paid : Cond.lays "BorrowedHours$Side" "BorrowedHours$Side" "paid" "I" ∈ wsU := mU (t1m (List.mem_of_getElem? (i := 50) rfl)) rfl
theorem ly_X6_took : Cond.lays "BorrowedHours$Side" "BorrowedHours$Side" "took" "I" ∈ wsU := mU (t1m (List.mem_of_getElem? (i := 52) rfl)) rfl
theorem ly_X6_won : Cond.lays "BorrowedHours$Side" "BorrowedHours$Side" "won" "I" ∈ wsU := mU (t1m (List.mem_of_getElem? (i := 54) rfl)) rfl
theorem lf_X2_9 : Cond.fieldLink RX2 9 "BorrowedHours$Game" "end" "I" ∈ wsU := mU (t1m (List.mem_of_getElem? (i := 57) rfl)) rfl
theorem lf_X4_32 : Cond.fieldLink RX4 32 "BorrowedHours$Game" "end" "I" ∈ wsU := mU (t1m (List.mem_of_getElem? (i := 58) rfl)) rfl
theorem lf_X1_38 : Cond.fieldLink RX1 38 "BorrowedHours$Game" "end" "I" ∈ wsU := mU (t1m (List.mem_of_getElem? (i := 59) rfl)) rfl
theorem lf_X2_25 : Cond.fieldLink RX2 25 "BorrowedHours$Game" "loan" "I" ∈ wsU := mU (t1m (List.mem_of_getElem? (i := 60) rfl)) rfl
theorem lf_X9_190 : Cond.fieldLink RX9 190 "BorrowedHours$Game" "loan" "I" ∈ wsU := mU (t1m (List.mem_of_getElem? (i := 61) rfl)) rfl
theorem lf_X4_17 : Cond.fieldLink RX4 17 "BorrowedHours$Game" "pays" "I" ∈ wsU := mU (t1m (List.mem_of_getElem? (i := 62) rfl)) rfl
theorem lf_X2_28 : Cond.fieldLink RX2 28 "BorrowedHours$Game" "pays" "I" ∈ wsU := mU (t1m (List.mem_of_getElem? (i := 63) rfl)) rfl
theorem lf_X2_31 : Cond.fieldLink RX2 31 "BorrowedHours$Game" "tie" "I" ∈ wsU := mU (t1m (List.mem_of_getElem? (i := 64) rfl)) rfl
theorem lf_X4_35 : Cond.fieldLink RX4 35 "BorrowedHours$Game" "tie" "I" ∈ wsU := mU (t1m (List.mem_of_getElem? (i := 65) rfl)) rfl
theorem lf_X1_69 : Cond.fieldLink RX1 69 "BorrowedHours$Game" "tie" "I" ∈ wsU := mU (t1m (List.mem_of_getElem? (i := 66) rfl)) rfl
theorem lf_X2_34 : Cond.fieldLink RX2 34 "BorrowedHours$Game" "hand" "I" ∈ wsU := mU (t1m (List.mem_of_getElem? (i := 67) rfl)) rfl
theorem lf_X9_166 : Cond.fieldLink RX9 166 "BorrowedHours$Game" "hand" "I" ∈ wsU := mU (t1m (List.mem_of_getElem? (i := 68) rfl)) rfl
theorem lf_X0_15 : Cond.fieldLink RX0 15 "BorrowedHours$Game" "first" "I" ∈ wsU := mU (t1m (List.mem_of_getElem? (i := 69) rfl)) rfl
theorem lf_X2_37 : Cond.fieldLink RX2 37 "BorrowedHours$Game" "first" "I" ∈ wsU := mU (t1m (List.mem_of_getElem? (i := 70) rfl)) rfl
theorem lf_X1_30 : Cond.fieldLink RX1 30 "BorrowedHours$Game" "first" "I" ∈ wsU := mU (t1m (List.mem_of_getElem? (i := 71) rfl)) rfl
theorem lf_X9_169 : Cond.fieldLink RX9 169 "BorrowedHours$Game" "first" "I" ∈ wsU := mU (t1m (List.mem_of_getElem? (i := 72) rfl)) rfl
theorem lf_X2_40 : Cond.fieldLink RX2 40 "BorrowedHours$Game" "rounds" "I" ∈ wsU := mU (t1m (List.mem_of_getElem? (i := 73) rfl)) rfl
theorem lf_X9_91 : Cond.fieldLink RX9 91 "BorrowedHours$Game" "rounds" "I" ∈ wsU := mU (t1m (List.mem_of_getElem? (i := 74) rfl)) rfl
theorem lf_X2_43 : Cond.fieldLink RX2 43 "BorrowedHours$Game" "clock" "I" ∈ wsU := mU (t1m (List.mem_of_getElem? (i := 75) rfl)) rfl
theorem lf_X9_175 : Cond.fieldLink RX9 175 "BorrowedHours$Game" "clock" "I" ∈ wsU := mU (t1m (List.mem_of_getElem? (i := 76) rfl)) rfl
theorem lf_X2_18 : Cond.fieldLink RX2 18 "BorrowedHours$Game" "zero" "LBorrowedHours$Side;" ∈ wsU := mU (t1m (List.mem_of_getElem? (i := 77) rfl)) rfl
theorem lf_X9_95 : Cond.fieldLink RX9 95 "BorrowedHours$Game" "zero" "LBorrowedHours$Side;" ∈ wsU := mU (t1m (List.mem_of_getElem? (i := 78) rfl)) rfl
theorem lf_X2_22 : Cond.fieldLink RX2 22 "BorrowedHours$Game" "one" "LBorrowedHours$Side;" ∈ wsU := mU (t1m (List.mem_of_getElem? (i := 79) rfl)) rfl
theorem lf_X9_104 : Cond.fieldLink RX9 104 "BorrowedHours$Game" "one" "LBorrowedHours$Side;" ∈ wsU := mU (t1m (List.mem_of_getElem? (i := 80) rfl)) rfl
theorem ly_X2_end : Cond.lays "BorrowedHours$Game" "BorrowedHours$Game" "end" "I" ∈ wsU := mU (t1m (List.mem_of_getElem? (i := 81) rfl)) rfl
theorem ly_X2_loan : Cond.lays "BorrowedHours$Game" "BorrowedHours$Game" "loan" "I" ∈ wsU := mU (t1m (List.mem_of_getElem? (i := 83) rfl)) rfl
theorem ly_X2_pays : Cond.lays "BorrowedHours$Game" "BorrowedHours$Game" "pays" "I" ∈ wsU := mU (t1m (List.mem_of_getElem? (i := 85) rfl)) rfl
theorem ly_X2_tie : Cond.lays "BorrowedHours$Game" "BorrowedHours$Game" "tie" "I" ∈ wsU := mU (t1m (List.mem_of_getElem? (i := 87) rfl)) rfl
theorem ly_X2_hand : Cond.lays "BorrowedHours$Game" "BorrowedHours$Game" "hand" "I" ∈ wsU := mU (t1m (List.mem_of_getElem? (i := 89) rfl)) rfl
theorem ly_X2_first : Cond.lays "BorrowedHours$Game" "BorrowedHours$Game" "first" "I" ∈ wsU := mU (t1m (List.mem_of_getElem? (i := 91) rfl)) rfl
theorem ly_X2_rounds : Cond.lays "BorrowedHours$Game" "BorrowedHours$Game" "rounds" "I" ∈ wsU := mU (t1m (List.mem_of_getElem? (i := 93) rfl)) rfl
theorem ly_X2_clock : Cond.lays "BorrowedHours$Game" "BorrowedHours$Game" "clock" "I" ∈ wsU := mU (t1m (List.mem_of_getElem? (i := 95) rfl)) rfl
theorem ly_X2_zero : Cond.laysFinal "BorrowedHours$Game" "BorrowedHours$Game" "zero" "LBorrowedHours$Side;" ∈ wsU := mU (t1m (List.mem_of_getElem? (i := 97) rfl)) rfl
theorem ly_X2_one : Cond.laysFinal "BorrowedHours$Game" "BorrowedHours$Game" "one" "LBorrowedHours$Side;" ∈ wsU := mU (t1m (List.mem_of_getElem? (i := 99) rfl)) rfl
theorem ll_X9_16 : Cond.classLink RX9 16 RX3 ∈ wsU := mU (t1m (List.mem_of_getElem? (i := 102) rfl)) rfl
theorem lt_X3 : Cond.instantiable RX3 2 ∈ wsU := mU (t1m (List.mem_of_getElem? (i := 103) rfl)) rfl
theorem li_X3_init : Cond.instanceMethod yX3_init ∈ wsU := mU (t1m (List.mem_of_getElem? (i := 105) rfl)) rfl
theorem lc_X3_init : Cond.code yX3_init cX3_init 1 (Option.none : Option FieldType) ∈ wsU := mU (t1m (List.mem_of_getElem? (i := 106) rfl)) rfl
theorem lm_X3_3 : Cond.methodLink RX3 3 objectInit ∈ wsU := mU (t1m (List.mem_of_getElem? (i := 107) rfl)) rfl
theorem ll_X3_9 : Cond.classLink RX3 9 RX2 ∈ wsU := mU (t1m (List.mem_of_getElem? (i := 108) rfl)) rfl
theorem lf_X3_11 : Cond.fieldLink RX3 11 "BorrowedHours$History" "states" "[LBorrowedHours$Game;" ∈ wsU := mU (t1m (List.mem_of_getElem? (i := 110) rfl)) rfl
theorem lf_X3_17 : Cond.fieldLink RX3 17 "BorrowedHours$History" "size" "I" ∈ wsU := mU (t1m (List.mem_of_getElem? (i := 111) rfl)) rfl
theorem lf_X9_181 : Cond.fieldLink RX9 181 "BorrowedHours$History" "size" "I" ∈ wsU := mU (t1m (List.mem_of_getElem? (i := 112) rfl)) rfl
theorem ly_X3_states : Cond.laysFinal "BorrowedHours$History" "BorrowedHours$History" "states" "[LBorrowedHours$Game;" ∈ wsU := mU (t1m (List.mem_of_getElem? (i := 113) rfl)) rfl
theorem ly_X3_size : Cond.lays "BorrowedHours$History" "BorrowedHours$History" "size" "I" ∈ wsU := mU (t1m (List.mem_of_getElem? (i := 115) rfl)) rfl
theorem ll_X9_23 : Cond.classLink RX9 23 RX7 ∈ wsU := mU (t1m (List.mem_of_getElem? (i := 118) rfl)) rfl
theorem lt_X7 : Cond.instantiable RX7 2 ∈ wsU := mU (t1m (List.mem_of_getElem? (i := 119) rfl)) rfl
theorem li_X7_init : Cond.instanceMethod yX7_init ∈ wsU := mU (t1m (List.mem_of_getElem? (i := 121) rfl)) rfl
theorem lc_X7_init : Cond.code yX7_init cX7_init 1 (Option.none : Option FieldType) ∈ wsU := mU (t1m (List.mem_of_getElem? (i := 122) rfl)) rfl
theorem lm_X7_1 : Cond.methodLink RX7 1 objectInit ∈ wsU := mU (t1m (List.mem_of_getElem? (i := 123) rfl)) rfl
theorem ll_X7_7 : Cond.classLink RX7 7 RX2 ∈ wsU := mU (t1m (List.mem_of_getElem? (i := 124) rfl)) rfl
theorem lf_X7_10 : Cond.fieldLink RX7 10 "BorrowedHours$Slot" "saved" "LBorrowedHours$Game;" ∈ wsU := mU (t1m (List.mem_of_getElem? (i := 126) rfl)) rfl
theorem lf_X9_211 : Cond.fieldLink RX9 211 "BorrowedHours$Slot" "saved" "LBorrowedHours$Game;" ∈ wsU := mU (t1m (List.mem_of_getElem? (i := 127) rfl)) rfl
theorem lf_X9_217 : Cond.fieldLink RX9 217 "BorrowedHours$Slot" "filled" "Z" ∈ wsU := mU (t1m (List.mem_of_getElem? (i := 128) rfl)) rfl
theorem ly_X7_saved : Cond.laysFinal "BorrowedHours$Slot" "BorrowedHours$Slot" "saved" "LBorrowedHours$Game;" ∈ wsU := mU (t1m (List.mem_of_getElem? (i := 129) rfl)) rfl
theorem ly_X7_filled : Cond.lays "BorrowedHours$Slot" "BorrowedHours$Slot" "filled" "Z" ∈ wsU := mU (t1m (List.mem_of_getElem? (i := 131) rfl)) rfl
theorem ll_X9_33 : Cond.classLink RX9 33 RX5 ∈ wsU := mU (t1m (List.mem_of_getElem? (i := 134) rfl)) rfl
theorem lt_X5 : Cond.instantiable RX5 2 ∈ wsU := mU (t1m (List.mem_of_getElem? (i := 135) rfl)) rfl
theorem li_X5_init : Cond.instanceMethod yX5_init ∈ wsU := mU (t1m (List.mem_of_getElem? (i := 137) rfl)) rfl
theorem lc_X5_init : Cond.code yX5_init cX5_init 1 (Option.none : Option FieldType) ∈ wsU := mU (t1m (List.mem_of_getElem? (i := 138) rfl)) rfl
theorem lm_X5_3 : Cond.methodLink RX5 3 objectInit ∈ wsU := mU (t1m (List.mem_of_getElem? (i := 139) rfl)) rfl
theorem lf_X5_9 : Cond.fieldLink RX5 9 "BorrowedHours$Pad" "signs" "[I" ∈ wsU := mU (t1m (List.mem_of_getElem? (i := 140) rfl)) rfl
theorem lf_X5_17 : Cond.fieldLink RX5 17 "BorrowedHours$Pad" "length" "I" ∈ wsU := mU (t1m (List.mem_of_getElem? (i := 141) rfl)) rfl
theorem lf_X9_178 : Cond.fieldLink RX9 178 "BorrowedHours$Pad" "length" "I" ∈ wsU := mU (t1m (List.mem_of_getElem? (i := 142) rfl)) rfl
theorem ly_X5_signs : Cond.laysFinal "BorrowedHours$Pad" "BorrowedHours$Pad" "signs" "[I" ∈ wsU := mU (t1m (List.mem_of_getElem? (i := 143) rfl)) rfl
theorem ly_X5_length : Cond.lays "BorrowedHours$Pad" "BorrowedHours$Pad" "length" "I" ∈ wsU := mU (t1m (List.mem_of_getElem? (i := 145) rfl)) rfl
theorem la_int : Cond.arrayClass .int ∈ wsU := mU (t1m (List.mem_of_getElem? (i := 148) rfl)) rfl
theorem ll_X9_40 : Cond.classLink RX9 40 RX4 ∈ wsU := mU (t1m (List.mem_of_getElem? (i := 149) rfl)) rfl
theorem lt_X4 : Cond.instantiable RX4 1 ∈ wsU := mU (t1m (List.mem_of_getElem? (i := 150) rfl)) rfl
theorem li_X4_init : Cond.instanceMethod yX4_init ∈ wsU := mU (t1m (List.mem_of_getElem? (i := 152) rfl)) rfl
theorem lc_X4_init : Cond.code yX4_init cX4_init 1 (Option.none : Option FieldType) ∈ wsU := mU (t1m (List.mem_of_getElem? (i := 153) rfl)) rfl
theorem lm_X4_5 : Cond.methodLink RX4 5 objectInit ∈ wsU := mU (t1m (List.mem_of_getElem? (i := 154) rfl)) rfl
theorem ll_X4_11 : Cond.classLink RX4 11 RX8 ∈ wsU := mU (t1m (List.mem_of_getElem? (i := 155) rfl)) rfl
theorem lf_X4_13 : Cond.fieldLink RX4 13 "BorrowedHours$Memory" "tables" "[LBorrowedHours$Times;" ∈ wsU := mU (t1m (List.mem_of_getElem? (i := 157) rfl)) rfl
theorem ly_X4_tables : Cond.laysFinal "BorrowedHours$Memory" "BorrowedHours$Memory" "tables" "[LBorrowedHours$Times;" ∈ wsU := mU (t1m (List.mem_of_getElem? (i := 158) rfl)) rfl
theorem ll_X9_47 : Cond.classLink RX9 47 RX0 ∈ wsU := mU (t1m (List.mem_of_getElem? (i := 161) rfl)) rfl
theorem lt_X0 : Cond.instantiable RX0 1 ∈ wsU := mU (t1m (List.mem_of_getElem? (i := 162) rfl)) rfl
theorem lm_X9_49 : Cond.methodLink RX9 49 yX0_init ∈ wsU := mU (t1m (List.mem_of_getElem? (i := 163) rfl)) rfl
theorem li_X0_init : Cond.instanceMethod yX0_init ∈ wsU := mU (t1m (List.mem_of_getElem? (i := 164) rfl)) rfl
theorem lc_X0_init : Cond.code yX0_init cX0_init 2 (Option.none : Option FieldType) ∈ wsU := mU (t1m (List.mem_of_getElem? (i := 165) rfl)) rfl
theorem lm_X0_3 : Cond.methodLink RX0 3 objectInit ∈ wsU := mU (t1m (List.mem_of_getElem? (i := 166) rfl)) rfl
theorem lf_X0_9 : Cond.fieldLink RX0 9 "BorrowedHours$Advice" "game" "LBorrowedHours$Game;" ∈ wsU := mU (t1m (List.mem_of_getElem? (i := 167) rfl)) rfl
theorem ly_X0_game : Cond.laysFinal "BorrowedHours$Advice" "BorrowedHours$Advice" "game" "LBorrowedHours$Game;" ∈ wsU := mU (t1m (List.mem_of_getElem? (i := 168) rfl)) rfl
theorem ll_X9_56 : Cond.classLink RX9 56 RX1 ∈ wsU := mU (t1m (List.mem_of_getElem? (i := 171) rfl)) rfl
theorem lt_X1 : Cond.instantiable RX1 1 ∈ wsU := mU (t1m (List.mem_of_getElem? (i := 172) rfl)) rfl
theorem lm_X9_58 : Cond.methodLink RX9 58 yX1_init ∈ wsU := mU (t1m (List.mem_of_getElem? (i := 173) rfl)) rfl
theorem li_X1_init : Cond.instanceMethod yX1_init ∈ wsU := mU (t1m (List.mem_of_getElem? (i := 174) rfl)) rfl
theorem lc_X1_init : Cond.code yX1_init cX1_init 2 (Option.none : Option FieldType) ∈ wsU := mU (t1m (List.mem_of_getElem? (i := 175) rfl)) rfl
theorem lm_X1_3 : Cond.methodLink RX1 3 objectInit ∈ wsU := mU (t1m (List.mem_of_getElem? (i := 176) rfl)) rfl
theorem lf_X1_9 : Cond.fieldLink RX1 9 "BorrowedHours$Foresight" "game" "LBorrowedHours$Game;" ∈ wsU := mU (t1m (List.mem_of_getElem? (i := 177) rfl)) rfl
theorem ly_X1_game : Cond.laysFinal "BorrowedHours$Foresight" "BorrowedHours$Foresight" "game" "LBorrowedHours$Game;" ∈ wsU := mU (t1m (List.mem_of_getElem? (i := 178) rfl)) rfl
theorem lf_X9_12 : Cond.fieldLink RX9 12 "BorrowedHours" "game" "LBorrowedHours$Game;" ∈ wsU := mU (t1m (List.mem_of_getElem? (i := 181) rfl)) rfl
theorem lf_X9_19 : Cond.fieldLink RX9 19 "BorrowedHours" "history" "LBorrowedHours$History;" ∈ wsU := mU (t1m (List.mem_of_getElem? (i := 182) rfl)) rfl
theorem lf_X9_26 : Cond.fieldLink RX9 26 "BorrowedHours" "slotZero" "LBorrowedHours$Slot;" ∈ wsU := mU (t1m (List.mem_of_getElem? (i := 183) rfl)) rfl
theorem lf_X9_30 : Cond.fieldLink RX9 30 "BorrowedHours" "slotOne" "LBorrowedHours$Slot;" ∈ wsU := mU (t1m (List.mem_of_getElem? (i := 184) rfl)) rfl
theorem lf_X9_36 : Cond.fieldLink RX9 36 "BorrowedHours" "pad" "LBorrowedHours$Pad;" ∈ wsU := mU (t1m (List.mem_of_getElem? (i := 185) rfl)) rfl
theorem lf_X9_43 : Cond.fieldLink RX9 43 "BorrowedHours" "memory" "LBorrowedHours$Memory;" ∈ wsU := mU (t1m (List.mem_of_getElem? (i := 186) rfl)) rfl
theorem lf_X9_52 : Cond.fieldLink RX9 52 "BorrowedHours" "advice" "LBorrowedHours$Advice;" ∈ wsU := mU (t1m (List.mem_of_getElem? (i := 187) rfl)) rfl
theorem lf_X9_59 : Cond.fieldLink RX9 59 "BorrowedHours" "foresight" "LBorrowedHours$Foresight;" ∈ wsU := mU (t1m (List.mem_of_getElem? (i := 188) rfl)) rfl
theorem ly_X9_game : Cond.laysFinal "BorrowedHours" "BorrowedHours" "game" "LBorrowedHours$Game;" ∈ wsU := mU (t1m (List.mem_of_getElem? (i := 189) rfl)) rfl
theorem ly_X9_history : Cond.laysFinal "BorrowedHours" "BorrowedHours" "history" "LBorrowedHours$History;" ∈ wsU := mU (t1m (List.mem_of_getElem? (i := 191) rfl)) rfl
theorem ly_X9_slotZero : Cond.laysFinal "BorrowedHours" "BorrowedHours" "slotZero" "LBorrowedHours$Slot;" ∈ wsU := mU (t1m (List.mem_of_getElem? (i := 193) rfl)) rfl
theorem ly_X9_slotOne : Cond.laysFinal "BorrowedHours" "BorrowedHours" "slotOne" "LBorrowedHours$Slot;" ∈ wsU := mU (t1m (List.mem_of_getElem? (i := 195) rfl)) rfl
theorem ly_X9_pad : Cond.laysFinal "BorrowedHours" "BorrowedHours" "pad" "LBorrowedHours$Pad;" ∈ wsU := mU (t1m (List.mem_of_getElem? (i := 197) rfl)) rfl
theorem ly_X9_memory : Cond.laysFinal "BorrowedHours" "BorrowedHours" "memory" "LBorrowedHours$Memory;" ∈ wsU := mU (t1m (List.mem_of_getElem? (i := 199) rfl)) rfl
theorem ly_X9_advice : Cond.laysFinal "BorrowedHours" "BorrowedHours" "advice" "LBorrowedHours$Advice;" ∈ wsU := mU (t1m (List.mem_of_getElem? (i := 201) rfl)) rfl
theorem ly_X9_foresight : Cond.laysFinal "BorrowedHours" "BorrowedHours" "foresight" "LBorrowedHours$Foresight;" ∈ wsU := mU (t1m (List.mem_of_getElem? (i := 203) rfl)) rfl
theorem lm_L_37 : Cond.methodLink RL 37 yX9_player ∈ wsU := mU (t1m (List.mem_of_getElem? (i := 206) rfl)) rfl
theorem li_X9_player : Cond.instanceMethod yX9_player ∈ wsU := mU (t1m (List.mem_of_getElem? (i := 207) rfl)) rfl
theorem lv_X9_player : Cond.selects RX9 yX9_player yX9_player ∈ wsU := mU (t1m (List.mem_of_getElem? (i := 208) rfl)) rfl
theorem lc_X9_player : Cond.code yX9_player cX9_player 5 (Option.some FieldType.int) ∈ wsU := mU (t1m (List.mem_of_getElem? (i := 209) rfl)) rfl
theorem lm_X9_141 : Cond.methodLink RX9 141 yX9_isPlayer ∈ wsU := mU (t1m (List.mem_of_getElem? (i := 210) rfl)) rfl
theorem ls_X9_isPlayer : Cond.static yX9_isPlayer ∈ wsU := mU (t1m (List.mem_of_getElem? (i := 211) rfl)) rfl
theorem lc_X9_isPlayer : Cond.code yX9_isPlayer cX9_isPlayer 1 (Option.some FieldType.boolean) ∈ wsU := mU (t1m (List.mem_of_getElem? (i := 212) rfl)) rfl
theorem lm_X9_144 : Cond.methodLink RX9 144 yX2_sideOf ∈ wsU := mU (t1m (List.mem_of_getElem? (i := 213) rfl)) rfl
theorem li_X2_sideOf : Cond.instanceMethod yX2_sideOf ∈ wsU := mU (t1m (List.mem_of_getElem? (i := 214) rfl)) rfl
theorem lv_X2_sideOf : Cond.selects RX2 yX2_sideOf yX2_sideOf ∈ wsU := mU (t1m (List.mem_of_getElem? (i := 215) rfl)) rfl
theorem lc_X2_sideOf : Cond.code yX2_sideOf cX2_sideOf 2 (Option.some (FieldType.object "BorrowedHours$Side")) ∈ wsU := mU (t1m (List.mem_of_getElem? (i := 216) rfl)) rfl
theorem lm_X9_151 : Cond.methodLink RX9 151 yX2_mostOf ∈ wsU := mU (t1m (List.mem_of_getElem? (i := 217) rfl)) rfl
theorem li_X2_mostOf : Cond.instanceMethod yX2_mostOf ∈ wsU := mU (t1m (List.mem_of_getElem? (i := 218) rfl)) rfl
theorem lv_X2_mostOf : Cond.selects RX2 yX2_mostOf yX2_mostOf ∈ wsU := mU (t1m (List.mem_of_getElem? (i := 219) rfl)) rfl
theorem lc_X2_mostOf : Cond.code yX2_mostOf cX2_mostOf 2 (Option.some FieldType.int) ∈ wsU := mU (t1m (List.mem_of_getElem? (i := 220) rfl)) rfl
theorem lm_X2_57 : Cond.methodLink RX2 57 yX2_sideOf ∈ wsU := mU (t1m (List.mem_of_getElem? (i := 221) rfl)) rfl
theorem lm_X9_163 : Cond.methodLink RX9 163 yX9_timeWith ∈ wsU := mU (t1m (List.mem_of_getElem? (i := 222) rfl)) rfl
theorem li_X9_timeWith : Cond.instanceMethod yX9_timeWith ∈ wsU := mU (t1m (List.mem_of_getElem? (i := 224) rfl)) rfl
theorem lc_X9_timeWith : Cond.code yX9_timeWith cX9_timeWith 5 (Option.some FieldType.int) ∈ wsU := mU (t1m (List.mem_of_getElem? (i := 225) rfl)) rfl
theorem lm_X9_221 : Cond.methodLink RX9 221 yX4_tableFor ∈ wsU := mU (t1m (List.mem_of_getElem? (i := 226) rfl)) rfl
theorem li_X4_tableFor : Cond.instanceMethod yX4_tableFor ∈ wsU := mU (t1m (List.mem_of_getElem? (i := 227) rfl)) rfl
theorem lv_X4_tableFor : Cond.selects RX4 yX4_tableFor yX4_tableFor ∈ wsU := mU (t1m (List.mem_of_getElem? (i := 228) rfl)) rfl
theorem lc_X4_tableFor : Cond.code yX4_tableFor cX4_tableFor 10 (Option.some (FieldType.object "BorrowedHours$Times")) ∈ wsU := mU (t1m (List.mem_of_getElem? (i := 229) rfl)) rfl
theorem lm_X4_23 : Cond.methodLink RX4 23 ⟨"java/lang/Math", "min", "(II)I"⟩ ∈ wsU := mU (t1m (List.mem_of_getElem? (i := 230) rfl)) rfl
theorem ls_min_Math : Cond.static ⟨"java/lang/Math", "min", "(II)I"⟩ ∈ wsU := mU (t1m (List.mem_of_getElem? (i := 231) rfl)) rfl
theorem lc_min_Math : Cond.code ⟨"java/lang/Math", "min", "(II)I"⟩ prog_13_method_69_code 2 (Option.some FieldType.int) ∈ wsU := mU (t1m (List.mem_of_getElem? (i := 232) rfl)) rfl
theorem lm_X4_29 : Cond.methodLink RX4 29 ⟨"java/lang/Math", "max", "(II)I"⟩ ∈ wsU := mU (t1m (List.mem_of_getElem? (i := 233) rfl)) rfl
theorem ls_max_Math : Cond.static ⟨"java/lang/Math", "max", "(II)I"⟩ ∈ wsU := mU (t1m (List.mem_of_getElem? (i := 234) rfl)) rfl
theorem lc_max_Math : Cond.code ⟨"java/lang/Math", "max", "(II)I"⟩ prog_13_method_65_code 2 (Option.some FieldType.int) ∈ wsU := mU (t1m (List.mem_of_getElem? (i := 235) rfl)) rfl
theorem lt_X8 : Cond.instantiable RX8 7 ∈ wsU := mU (t1m (List.mem_of_getElem? (i := 236) rfl)) rfl
theorem lm_X4_38 : Cond.methodLink RX4 38 yX8_init ∈ wsU := mU (t1m (List.mem_of_getElem? (i := 237) rfl)) rfl
theorem li_X8_init : Cond.instanceMethod yX8_init ∈ wsU := mU (t1m (List.mem_of_getElem? (i := 238) rfl)) rfl
theorem lc_X8_init : Cond.code yX8_init cX8_init 10 (Option.none : Option FieldType) ∈ wsU := mU (t1m (List.mem_of_getElem? (i := 239) rfl)) rfl
theorem lm_X8_3 : Cond.methodLink RX8 3 objectInit ∈ wsU := mU (t2m (List.mem_of_getElem? (i := 0) rfl)) rfl
theorem lm_X8_25 : Cond.methodLink RX8 25 ⟨"java/lang/Math", "max", "(II)I"⟩ ∈ wsU := mU (t2m (List.mem_of_getElem? (i := 1) rfl)) rfl
theorem lf_X8_9 : Cond.fieldLink RX8 9 "BorrowedHours$Times" "end" "I" ∈ wsU := mU (t2m (List.mem_of_getElem? (i := 2) rfl)) rfl
theorem lf_X8_15 : Cond.fieldLink RX8 15 "BorrowedHours$Times" "tie" "I" ∈ wsU := mU (t2m (List.mem_of_getElem? (i := 3) rfl)) rfl
theorem lf_X8_18 : Cond.fieldLink RX8 18 "BorrowedHours$Times" "sumStays" "Z" ∈ wsU := mU (t2m (List.mem_of_getElem? (i := 4) rfl)) rfl
theorem lf_X8_22 : Cond.fieldLink RX8 22 "BorrowedHours$Times" "top" "I" ∈ wsU := mU (t2m (List.mem_of_getElem? (i := 5) rfl)) rfl
theorem lf_X8_31 : Cond.fieldLink RX8 31 "BorrowedHours$Times" "owns" "[I" ∈ wsU := mU (t2m (List.mem_of_getElem? (i := 6) rfl)) rfl
theorem lf_X8_35 : Cond.fieldLink RX8 35 "BorrowedHours$Times" "foes" "[I" ∈ wsU := mU (t2m (List.mem_of_getElem? (i := 7) rfl)) rfl
theorem lf_X8_38 : Cond.fieldLink RX8 38 "BorrowedHours$Times" "times" "[I" ∈ wsU := mU (t2m (List.mem_of_getElem? (i := 8) rfl)) rfl
theorem ly_X8_end : Cond.laysFinal "BorrowedHours$Times" "BorrowedHours$Times" "end" "I" ∈ wsU := mU (t2m (List.mem_of_getElem? (i := 9) rfl)) rfl
theorem ly_X8_tie : Cond.laysFinal "BorrowedHours$Times" "BorrowedHours$Times" "tie" "I" ∈ wsU := mU (t2m (List.mem_of_getElem? (i := 11) rfl)) rfl
theorem ly_X8_sumStays : Cond.laysFinal "BorrowedHours$Times" "BorrowedHours$Times" "sumStays" "Z" ∈ wsU := mU (t2m (List.mem_of_getElem? (i := 13) rfl)) rfl
theorem ly_X8_top : Cond.laysFinal "BorrowedHours$Times" "BorrowedHours$Times" "top" "I" ∈ wsU := mU (t2m (List.mem_of_getElem? (i := 15) rfl)) rfl
theorem ly_X8_owns : Cond.laysFinal "BorrowedHours$Times" "BorrowedHours$Times" "owns" "[I" ∈ wsU := mU (t2m (List.mem_of_getElem? (i := 17) rfl)) rfl
theorem ly_X8_foes : Cond.laysFinal "BorrowedHours$Times" "BorrowedHours$Times" "foes" "[I" ∈ wsU := mU (t2m (List.mem_of_getElem? (i := 19) rfl)) rfl
theorem ly_X8_times : Cond.laysFinal "BorrowedHours$Times" "BorrowedHours$Times" "times" "[I" ∈ wsU := mU (t2m (List.mem_of_getElem? (i := 21) rfl)) rfl
theorem lm_X4_41 : Cond.methodLink RX4 41 yX8_learnAll ∈ wsU := mU (t2m (List.mem_of_getElem? (i := 24) rfl)) rfl
theorem li_X8_learnAll : Cond.instanceMethod yX8_learnAll ∈ wsU := mU (t2m (List.mem_of_getElem? (i := 25) rfl)) rfl
theorem lv_X8_learnAll : Cond.selects RX8 yX8_learnAll yX8_learnAll ∈ wsU := mU (t2m (List.mem_of_getElem? (i := 26) rfl)) rfl
theorem lc_X8_learnAll : Cond.code yX8_learnAll cX8_learnAll 3 (Option.none : Option FieldType) ∈ wsU := mU (t2m (List.mem_of_getElem? (i := 27) rfl)) rfl
theorem lm_X8_41 : Cond.methodLink RX8 41 yX8_learnRounds ∈ wsU := mU (t2m (List.mem_of_getElem? (i := 28) rfl)) rfl
theorem li_X8_learnRounds : Cond.instanceMethod yX8_learnRounds ∈ wsU := mU (t2m (List.mem_of_getElem? (i := 30) rfl)) rfl
theorem lc_X8_learnRounds : Cond.code yX8_learnRounds cX8_learnRounds 7 (Option.some FieldType.boolean) ∈ wsU := mU (t2m (List.mem_of_getElem? (i := 31) rfl)) rfl
theorem lm_X8_45 : Cond.methodLink RX8 45 yX8_bidForces ∈ wsU := mU (t2m (List.mem_of_getElem? (i := 32) rfl)) rfl
theorem li_X8_bidForces : Cond.instanceMethod yX8_bidForces ∈ wsU := mU (t2m (List.mem_of_getElem? (i := 34) rfl)) rfl
theorem lc_X8_bidForces : Cond.code yX8_bidForces cX8_bidForces 7 (Option.some FieldType.boolean) ∈ wsU := mU (t2m (List.mem_of_getElem? (i := 35) rfl)) rfl
theorem lm_X8_52 : Cond.methodLink RX8 52 yX8_lost ∈ wsU := mU (t2m (List.mem_of_getElem? (i := 36) rfl)) rfl
theorem li_X8_lost : Cond.instanceMethod yX8_lost ∈ wsU := mU (t2m (List.mem_of_getElem? (i := 38) rfl)) rfl
theorem lc_X8_lost : Cond.code yX8_lost cX8_lost 8 (Option.some FieldType.boolean) ∈ wsU := mU (t2m (List.mem_of_getElem? (i := 39) rfl)) rfl
theorem lm_X8_62 : Cond.methodLink RX8 62 yX8_timeAt ∈ wsU := mU (t2m (List.mem_of_getElem? (i := 40) rfl)) rfl
theorem li_X8_timeAt : Cond.instanceMethod yX8_timeAt ∈ wsU := mU (t2m (List.mem_of_getElem? (i := 41) rfl)) rfl
theorem lv_X8_timeAt : Cond.selects RX8 yX8_timeAt yX8_timeAt ∈ wsU := mU (t2m (List.mem_of_getElem? (i := 42) rfl)) rfl
theorem lc_X8_timeAt : Cond.code yX8_timeAt cX8_timeAt 7 (Option.some FieldType.int) ∈ wsU := mU (t2m (List.mem_of_getElem? (i := 43) rfl)) rfl
theorem lm_X8_56 : Cond.methodLink RX8 56 yX8_neverTakes ∈ wsU := mU (t2m (List.mem_of_getElem? (i := 44) rfl)) rfl
theorem li_X8_neverTakes : Cond.instanceMethod yX8_neverTakes ∈ wsU := mU (t2m (List.mem_of_getElem? (i := 46) rfl)) rfl
theorem lc_X8_neverTakes : Cond.code yX8_neverTakes cX8_neverTakes 2 (Option.some FieldType.boolean) ∈ wsU := mU (t2m (List.mem_of_getElem? (i := 47) rfl)) rfl
theorem lm_X8_59 : Cond.methodLink RX8 59 yX8_taken ∈ wsU := mU (t2m (List.mem_of_getElem? (i := 48) rfl)) rfl
theorem li_X8_taken : Cond.instanceMethod yX8_taken ∈ wsU := mU (t2m (List.mem_of_getElem? (i := 50) rfl)) rfl
theorem lc_X8_taken : Cond.code yX8_taken cX8_taken 8 (Option.some FieldType.boolean) ∈ wsU := mU (t2m (List.mem_of_getElem? (i := 51) rfl)) rfl
theorem lm_X8_49 : Cond.methodLink RX8 49 yX8_answerForces ∈ wsU := mU (t2m (List.mem_of_getElem? (i := 52) rfl)) rfl
theorem li_X8_answerForces : Cond.instanceMethod yX8_answerForces ∈ wsU := mU (t2m (List.mem_of_getElem? (i := 54) rfl)) rfl
theorem lc_X8_answerForces : Cond.code yX8_answerForces cX8_answerForces 7 (Option.some FieldType.boolean) ∈ wsU := mU (t2m (List.mem_of_getElem? (i := 55) rfl)) rfl
theorem lm_X9_225 : Cond.methodLink RX9 225 yX2_toWin ∈ wsU := mU (t2m (List.mem_of_getElem? (i := 56) rfl)) rfl
theorem li_X2_toWin : Cond.instanceMethod yX2_toWin ∈ wsU := mU (t2m (List.mem_of_getElem? (i := 57) rfl)) rfl
theorem lv_X2_toWin : Cond.selects RX2 yX2_toWin yX2_toWin ∈ wsU := mU (t2m (List.mem_of_getElem? (i := 58) rfl)) rfl
theorem lc_X2_toWin : Cond.code yX2_toWin cX2_toWin 2 (Option.some FieldType.int) ∈ wsU := mU (t2m (List.mem_of_getElem? (i := 59) rfl)) rfl
theorem lm_X9_228 : Cond.methodLink RX9 228 yX8_timeAt ∈ wsU := mU (t2m (List.mem_of_getElem? (i := 60) rfl)) rfl
theorem lm_L_23 : Cond.methodLink RL 23 yX9_count ∈ wsU := mU (t2m (List.mem_of_getElem? (i := 61) rfl)) rfl
theorem li_X9_count : Cond.instanceMethod yX9_count ∈ wsU := mU (t2m (List.mem_of_getElem? (i := 62) rfl)) rfl
theorem lv_X9_count : Cond.selects RX9 yX9_count yX9_count ∈ wsU := mU (t2m (List.mem_of_getElem? (i := 63) rfl)) rfl
theorem lc_X9_count : Cond.code yX9_count cX9_count 2 (Option.some FieldType.int) ∈ wsU := mU (t2m (List.mem_of_getElem? (i := 64) rfl)) rfl
theorem lm_X9_63 : Cond.methodLink RX9 63 yX9_isSetting ∈ wsU := mU (t2m (List.mem_of_getElem? (i := 65) rfl)) rfl
theorem ls_X9_isSetting : Cond.static yX9_isSetting ∈ wsU := mU (t2m (List.mem_of_getElem? (i := 66) rfl)) rfl
theorem lc_X9_isSetting : Cond.code yX9_isSetting cX9_isSetting 1 (Option.some FieldType.boolean) ∈ wsU := mU (t2m (List.mem_of_getElem? (i := 67) rfl)) rfl
theorem lm_X9_87 : Cond.methodLink RX9 87 yX9_isBetween ∈ wsU := mU (t2m (List.mem_of_getElem? (i := 68) rfl)) rfl
theorem ls_X9_isBetween : Cond.static yX9_isBetween ∈ wsU := mU (t2m (List.mem_of_getElem? (i := 69) rfl)) rfl
theorem lc_X9_isBetween : Cond.code yX9_isBetween cX9_isBetween 3 (Option.some FieldType.boolean) ∈ wsU := mU (t2m (List.mem_of_getElem? (i := 70) rfl)) rfl
theorem lm_X9_74 : Cond.methodLink RX9 74 yX2_settingOf ∈ wsU := mU (t2m (List.mem_of_getElem? (i := 71) rfl)) rfl
theorem li_X2_settingOf : Cond.instanceMethod yX2_settingOf ∈ wsU := mU (t2m (List.mem_of_getElem? (i := 72) rfl)) rfl
theorem lv_X2_settingOf : Cond.selects RX2 yX2_settingOf yX2_settingOf ∈ wsU := mU (t2m (List.mem_of_getElem? (i := 73) rfl)) rfl
theorem lc_X2_settingOf : Cond.code yX2_settingOf cX2_settingOf 2 (Option.some FieldType.int) ∈ wsU := mU (t2m (List.mem_of_getElem? (i := 74) rfl)) rfl
theorem lm_X9_115 : Cond.methodLink RX9 115 yX2_isOver ∈ wsU := mU (t2m (List.mem_of_getElem? (i := 75) rfl)) rfl
theorem li_X2_isOver : Cond.instanceMethod yX2_isOver ∈ wsU := mU (t2m (List.mem_of_getElem? (i := 76) rfl)) rfl
theorem lv_X2_isOver : Cond.selects RX2 yX2_isOver yX2_isOver ∈ wsU := mU (t2m (List.mem_of_getElem? (i := 77) rfl)) rfl
theorem lc_X2_isOver : Cond.code yX2_isOver cX2_isOver 1 (Option.some FieldType.boolean) ∈ wsU := mU (t2m (List.mem_of_getElem? (i := 78) rfl)) rfl
theorem lm_X2_53 : Cond.methodLink RX2 53 yX2_winner ∈ wsU := mU (t2m (List.mem_of_getElem? (i := 79) rfl)) rfl
theorem li_X2_winner : Cond.instanceMethod yX2_winner ∈ wsU := mU (t2m (List.mem_of_getElem? (i := 80) rfl)) rfl
theorem lv_X2_winner : Cond.selects RX2 yX2_winner yX2_winner ∈ wsU := mU (t2m (List.mem_of_getElem? (i := 81) rfl)) rfl
theorem lc_X2_winner : Cond.code yX2_winner cX2_winner 1 (Option.some FieldType.int) ∈ wsU := mU (t2m (List.mem_of_getElem? (i := 82) rfl)) rfl
theorem lm_X9_172 : Cond.methodLink RX9 172 yX2_winner ∈ wsU := mU (t2m (List.mem_of_getElem? (i := 83) rfl)) rfl
theorem lm_L_84 : Cond.methodLink RL 84 yX9_bestBid ∈ wsU := mU (t2m (List.mem_of_getElem? (i := 84) rfl)) rfl
theorem li_X9_bestBid : Cond.instanceMethod yX9_bestBid ∈ wsU := mU (t2m (List.mem_of_getElem? (i := 85) rfl)) rfl
theorem lv_X9_bestBid : Cond.selects RX9 yX9_bestBid yX9_bestBid ∈ wsU := mU (t2m (List.mem_of_getElem? (i := 86) rfl)) rfl
theorem lc_X9_bestBid : Cond.code yX9_bestBid cX9_bestBid 1 (Option.some FieldType.int) ∈ wsU := mU (t2m (List.mem_of_getElem? (i := 87) rfl)) rfl
theorem lm_X9_119 : Cond.methodLink RX9 119 yX9_timesNow ∈ wsU := mU (t2m (List.mem_of_getElem? (i := 88) rfl)) rfl
theorem li_X9_timesNow : Cond.instanceMethod yX9_timesNow ∈ wsU := mU (t2m (List.mem_of_getElem? (i := 90) rfl)) rfl
theorem lc_X9_timesNow : Cond.code yX9_timesNow cX9_timesNow 1 (Option.some (FieldType.object "BorrowedHours$Times")) ∈ wsU := mU (t2m (List.mem_of_getElem? (i := 91) rfl)) rfl
theorem lm_X9_123 : Cond.methodLink RX9 123 yX0_findBid ∈ wsU := mU (t2m (List.mem_of_getElem? (i := 92) rfl)) rfl
theorem li_X0_findBid : Cond.instanceMethod yX0_findBid ∈ wsU := mU (t2m (List.mem_of_getElem? (i := 93) rfl)) rfl
theorem lv_X0_findBid : Cond.selects RX0 yX0_findBid yX0_findBid ∈ wsU := mU (t2m (List.mem_of_getElem? (i := 94) rfl)) rfl
theorem lc_X0_findBid : Cond.code yX0_findBid cX0_findBid 7 (Option.some FieldType.int) ∈ wsU := mU (t2m (List.mem_of_getElem? (i := 95) rfl)) rfl
theorem lm_X0_21 : Cond.methodLink RX0 21 yX2_mostOf ∈ wsU := mU (t2m (List.mem_of_getElem? (i := 96) rfl)) rfl
theorem lm_X0_25 : Cond.methodLink RX0 25 yX0_longestOwn ∈ wsU := mU (t2m (List.mem_of_getElem? (i := 97) rfl)) rfl
theorem li_X0_longestOwn : Cond.instanceMethod yX0_longestOwn ∈ wsU := mU (t2m (List.mem_of_getElem? (i := 99) rfl)) rfl
theorem lc_X0_longestOwn : Cond.code yX0_longestOwn cX0_longestOwn 6 (Option.some FieldType.int) ∈ wsU := mU (t2m (List.mem_of_getElem? (i := 100) rfl)) rfl
theorem lm_X0_36 : Cond.methodLink RX0 36 yX0_timeBehind ∈ wsU := mU (t2m (List.mem_of_getElem? (i := 101) rfl)) rfl
theorem li_X0_timeBehind : Cond.instanceMethod yX0_timeBehind ∈ wsU := mU (t2m (List.mem_of_getElem? (i := 103) rfl)) rfl
theorem lc_X0_timeBehind : Cond.code yX0_timeBehind cX0_timeBehind 13 (Option.some FieldType.int) ∈ wsU := mU (t2m (List.mem_of_getElem? (i := 104) rfl)) rfl
theorem lm_X0_49 : Cond.methodLink RX0 49 yX2_takerOf ∈ wsU := mU (t2m (List.mem_of_getElem? (i := 105) rfl)) rfl
theorem li_X2_takerOf : Cond.instanceMethod yX2_takerOf ∈ wsU := mU (t2m (List.mem_of_getElem? (i := 106) rfl)) rfl
theorem lv_X2_takerOf : Cond.selects RX2 yX2_takerOf yX2_takerOf ∈ wsU := mU (t2m (List.mem_of_getElem? (i := 107) rfl)) rfl
theorem lc_X2_takerOf : Cond.code yX2_takerOf cX2_takerOf 4 (Option.some FieldType.int) ∈ wsU := mU (t2m (List.mem_of_getElem? (i := 108) rfl)) rfl
theorem lm_X0_52 : Cond.methodLink RX0 52 yX2_gainOf ∈ wsU := mU (t2m (List.mem_of_getElem? (i := 109) rfl)) rfl
theorem li_X2_gainOf : Cond.instanceMethod yX2_gainOf ∈ wsU := mU (t2m (List.mem_of_getElem? (i := 110) rfl)) rfl
theorem lv_X2_gainOf : Cond.selects RX2 yX2_gainOf yX2_gainOf ∈ wsU := mU (t2m (List.mem_of_getElem? (i := 111) rfl)) rfl
theorem lc_X2_gainOf : Cond.code yX2_gainOf cX2_gainOf 2 (Option.some FieldType.int) ∈ wsU := mU (t2m (List.mem_of_getElem? (i := 112) rfl)) rfl
theorem lm_X0_55 : Cond.methodLink RX0 55 yX2_toWin ∈ wsU := mU (t2m (List.mem_of_getElem? (i := 113) rfl)) rfl
theorem lm_X0_58 : Cond.methodLink RX0 58 yX8_timeAt ∈ wsU := mU (t2m (List.mem_of_getElem? (i := 114) rfl)) rfl
theorem lm_X0_40 : Cond.methodLink RX0 40 ⟨"java/lang/Math", "max", "(II)I"⟩ ∈ wsU := mU (t2m (List.mem_of_getElem? (i := 115) rfl)) rfl
theorem lm_X0_29 : Cond.methodLink RX0 29 yX0_findDelay ∈ wsU := mU (t2m (List.mem_of_getElem? (i := 116) rfl)) rfl
theorem li_X0_findDelay : Cond.instanceMethod yX0_findDelay ∈ wsU := mU (t2m (List.mem_of_getElem? (i := 118) rfl)) rfl
theorem lc_X0_findDelay : Cond.code yX0_findDelay cX0_findDelay 7 (Option.some FieldType.int) ∈ wsU := mU (t2m (List.mem_of_getElem? (i := 119) rfl)) rfl
theorem lm_X0_33 : Cond.methodLink RX0 33 yX0_leastOther ∈ wsU := mU (t2m (List.mem_of_getElem? (i := 120) rfl)) rfl
theorem li_X0_leastOther : Cond.instanceMethod yX0_leastOther ∈ wsU := mU (t2m (List.mem_of_getElem? (i := 122) rfl)) rfl
theorem lc_X0_leastOther : Cond.code yX0_leastOther cX0_leastOther 6 (Option.some FieldType.int) ∈ wsU := mU (t2m (List.mem_of_getElem? (i := 123) rfl)) rfl
theorem lm_X0_46 : Cond.methodLink RX0 46 ⟨"java/lang/Math", "min", "(II)I"⟩ ∈ wsU := mU (t2m (List.mem_of_getElem? (i := 124) rfl)) rfl
theorem lm_L_99 : Cond.methodLink RL 99 yX9_bestAnswer ∈ wsU := mU (t2m (List.mem_of_getElem? (i := 125) rfl)) rfl
theorem li_X9_bestAnswer : Cond.instanceMethod yX9_bestAnswer ∈ wsU := mU (t2m (List.mem_of_getElem? (i := 126) rfl)) rfl
theorem lv_X9_bestAnswer : Cond.selects RX9 yX9_bestAnswer yX9_bestAnswer ∈ wsU := mU (t2m (List.mem_of_getElem? (i := 127) rfl)) rfl
theorem lc_X9_bestAnswer : Cond.code yX9_bestAnswer cX9_bestAnswer 2 (Option.some FieldType.int) ∈ wsU := mU (t2m (List.mem_of_getElem? (i := 128) rfl)) rfl
theorem lm_X9_107 : Cond.methodLink RX9 107 yX2_allows ∈ wsU := mU (t2m (List.mem_of_getElem? (i := 129) rfl)) rfl
theorem li_X2_allows : Cond.instanceMethod yX2_allows ∈ wsU := mU (t2m (List.mem_of_getElem? (i := 130) rfl)) rfl
theorem lv_X2_allows : Cond.selects RX2 yX2_allows yX2_allows ∈ wsU := mU (t2m (List.mem_of_getElem? (i := 131) rfl)) rfl
theorem lc_X2_allows : Cond.code yX2_allows cX2_allows 3 (Option.some FieldType.boolean) ∈ wsU := mU (t2m (List.mem_of_getElem? (i := 132) rfl)) rfl
theorem lm_X2_64 : Cond.methodLink RX2 64 yX2_isOver ∈ wsU := mU (t2m (List.mem_of_getElem? (i := 133) rfl)) rfl
theorem lm_X2_68 : Cond.methodLink RX2 68 yX2_mostOf ∈ wsU := mU (t2m (List.mem_of_getElem? (i := 134) rfl)) rfl
theorem lm_X9_127 : Cond.methodLink RX9 127 yX0_findAnswer ∈ wsU := mU (t2m (List.mem_of_getElem? (i := 135) rfl)) rfl
theorem li_X0_findAnswer : Cond.instanceMethod yX0_findAnswer ∈ wsU := mU (t2m (List.mem_of_getElem? (i := 136) rfl)) rfl
theorem lv_X0_findAnswer : Cond.selects RX0 yX0_findAnswer yX0_findAnswer ∈ wsU := mU (t2m (List.mem_of_getElem? (i := 137) rfl)) rfl
theorem lc_X0_findAnswer : Cond.code yX0_findAnswer cX0_findAnswer 11 (Option.some FieldType.int) ∈ wsU := mU (t2m (List.mem_of_getElem? (i := 138) rfl)) rfl
theorem lm_L_81 : Cond.methodLink RL 81 yX9_keeps ∈ wsU := mU (t2m (List.mem_of_getElem? (i := 139) rfl)) rfl
theorem li_X9_keeps : Cond.instanceMethod yX9_keeps ∈ wsU := mU (t2m (List.mem_of_getElem? (i := 140) rfl)) rfl
theorem lv_X9_keeps : Cond.selects RX9 yX9_keeps yX9_keeps ∈ wsU := mU (t2m (List.mem_of_getElem? (i := 141) rfl)) rfl
theorem lc_X9_keeps : Cond.code yX9_keeps cX9_keeps 1 (Option.some FieldType.int) ∈ wsU := mU (t2m (List.mem_of_getElem? (i := 142) rfl)) rfl
theorem lm_X9_187 : Cond.methodLink RX9 187 yX0_countKeeping ∈ wsU := mU (t2m (List.mem_of_getElem? (i := 143) rfl)) rfl
theorem li_X0_countKeeping : Cond.instanceMethod yX0_countKeeping ∈ wsU := mU (t2m (List.mem_of_getElem? (i := 144) rfl)) rfl
theorem lv_X0_countKeeping : Cond.selects RX0 yX0_countKeeping yX0_countKeeping ∈ wsU := mU (t2m (List.mem_of_getElem? (i := 145) rfl)) rfl
theorem lc_X0_countKeeping : Cond.code yX0_countKeeping cX0_countKeeping 5 (Option.some FieldType.int) ∈ wsU := mU (t2m (List.mem_of_getElem? (i := 146) rfl)) rfl
theorem lm_L_53 : Cond.methodLink RL 53 yX9_leastHours ∈ wsU := mU (t2m (List.mem_of_getElem? (i := 147) rfl)) rfl
theorem li_X9_leastHours : Cond.instanceMethod yX9_leastHours ∈ wsU := mU (t2m (List.mem_of_getElem? (i := 148) rfl)) rfl
theorem lv_X9_leastHours : Cond.selects RX9 yX9_leastHours yX9_leastHours ∈ wsU := mU (t2m (List.mem_of_getElem? (i := 149) rfl)) rfl
theorem lc_X9_leastHours : Cond.code yX9_leastHours cX9_leastHours 3 (Option.some FieldType.int) ∈ wsU := mU (t2m (List.mem_of_getElem? (i := 150) rfl)) rfl
theorem lm_L_88 : Cond.methodLink RL 88 yL_cell ∈ wsU := mU (t2m (List.mem_of_getElem? (i := 151) rfl)) rfl
theorem ls_L_cell : Cond.static yL_cell ∈ wsU := mU (t2m (List.mem_of_getElem? (i := 152) rfl)) rfl
theorem lc_L_cell : Cond.code yL_cell cL_cell 2 (Option.some FieldType.int) ∈ wsU := mU (t2m (List.mem_of_getElem? (i := 153) rfl)) rfl
theorem lk_L_7 : Cond.constant RL 7 (2143805907 : Int32) ∈ wsU := mU (t2m (List.mem_of_getElem? (i := 154) rfl)) rfl
theorem lm_L_92 : Cond.methodLink RL 92 yL_isStep ∈ wsU := mU (t2m (List.mem_of_getElem? (i := 155) rfl)) rfl
theorem ls_L_isStep : Cond.static yL_isStep ∈ wsU := mU (t2m (List.mem_of_getElem? (i := 156) rfl)) rfl
theorem lc_L_isStep : Cond.code yL_isStep cL_isStep 9 (Option.some FieldType.boolean) ∈ wsU := mU (t2m (List.mem_of_getElem? (i := 157) rfl)) rfl
theorem lm_L_17 : Cond.methodLink RL 17 yL_up ∈ wsU := mU (t2m (List.mem_of_getElem? (i := 158) rfl)) rfl
theorem ls_L_up : Cond.static yL_up ∈ wsU := mU (t2m (List.mem_of_getElem? (i := 159) rfl)) rfl
theorem lc_L_up : Cond.code yL_up cL_up 2 (Option.some FieldType.int) ∈ wsU := mU (t2m (List.mem_of_getElem? (i := 160) rfl)) rfl
theorem lk_L_8 : Cond.constant RL 8 (2147483647 : Int32) ∈ wsU := mU (t2m (List.mem_of_getElem? (i := 161) rfl)) rfl
theorem lm_L_27 : Cond.methodLink RL 27 yX9_set ∈ wsU := mU (t2m (List.mem_of_getElem? (i := 162) rfl)) rfl
theorem li_X9_set : Cond.instanceMethod yX9_set ∈ wsU := mU (t2m (List.mem_of_getElem? (i := 163) rfl)) rfl
theorem lv_X9_set : Cond.selects RX9 yX9_set yX9_set ∈ wsU := mU (t2m (List.mem_of_getElem? (i := 164) rfl)) rfl
theorem lc_X9_set : Cond.code yX9_set cX9_set 4 (Option.some FieldType.int) ∈ wsU := mU (t2m (List.mem_of_getElem? (i := 165) rfl)) rfl
theorem lm_X9_67 : Cond.methodLink RX9 67 yX9_leastSetting ∈ wsU := mU (t2m (List.mem_of_getElem? (i := 166) rfl)) rfl
theorem ls_X9_leastSetting : Cond.static yX9_leastSetting ∈ wsU := mU (t2m (List.mem_of_getElem? (i := 167) rfl)) rfl
theorem lc_X9_leastSetting : Cond.code yX9_leastSetting cX9_leastSetting 1 (Option.some FieldType.int) ∈ wsU := mU (t2m (List.mem_of_getElem? (i := 168) rfl)) rfl
theorem lm_X9_71 : Cond.methodLink RX9 71 yX9_mostSetting ∈ wsU := mU (t2m (List.mem_of_getElem? (i := 169) rfl)) rfl
theorem ls_X9_mostSetting : Cond.static yX9_mostSetting ∈ wsU := mU (t2m (List.mem_of_getElem? (i := 170) rfl)) rfl
theorem lc_X9_mostSetting : Cond.code yX9_mostSetting cX9_mostSetting 1 (Option.some FieldType.int) ∈ wsU := mU (t2m (List.mem_of_getElem? (i := 171) rfl)) rfl
theorem lm_X9_77 : Cond.methodLink RX9 77 yX3_keepState ∈ wsU := mU (t2m (List.mem_of_getElem? (i := 172) rfl)) rfl
theorem li_X3_keepState : Cond.instanceMethod yX3_keepState ∈ wsU := mU (t2m (List.mem_of_getElem? (i := 173) rfl)) rfl
theorem lv_X3_keepState : Cond.selects RX3 yX3_keepState yX3_keepState ∈ wsU := mU (t2m (List.mem_of_getElem? (i := 174) rfl)) rfl
theorem lc_X3_keepState : Cond.code yX3_keepState cX3_keepState 2 (Option.none : Option FieldType) ∈ wsU := mU (t2m (List.mem_of_getElem? (i := 175) rfl)) rfl
theorem lm_X3_21 : Cond.methodLink RX3 21 yX3_dropOldest ∈ wsU := mU (t2m (List.mem_of_getElem? (i := 176) rfl)) rfl
theorem li_X3_dropOldest : Cond.instanceMethod yX3_dropOldest ∈ wsU := mU (t2m (List.mem_of_getElem? (i := 178) rfl)) rfl
theorem lc_X3_dropOldest : Cond.code yX3_dropOldest cX3_dropOldest 3 (Option.none : Option FieldType) ∈ wsU := mU (t2m (List.mem_of_getElem? (i := 179) rfl)) rfl
theorem lm_X3_25 : Cond.methodLink RX3 25 yX2_copyFrom ∈ wsU := mU (t2m (List.mem_of_getElem? (i := 181) rfl)) rfl
theorem li_X2_copyFrom : Cond.instanceMethod yX2_copyFrom ∈ wsU := mU (t2m (List.mem_of_getElem? (i := 182) rfl)) rfl
theorem lv_X2_copyFrom : Cond.selects RX2 yX2_copyFrom yX2_copyFrom ∈ wsU := mU (t2m (List.mem_of_getElem? (i := 183) rfl)) rfl
theorem lc_X2_copyFrom : Cond.code yX2_copyFrom cX2_copyFrom 2 (Option.none : Option FieldType) ∈ wsU := mU (t2m (List.mem_of_getElem? (i := 184) rfl)) rfl
theorem lm_X2_46 : Cond.methodLink RX2 46 yX6_copyFrom ∈ wsU := mU (t2m (List.mem_of_getElem? (i := 185) rfl)) rfl
theorem li_X6_copyFrom : Cond.instanceMethod yX6_copyFrom ∈ wsU := mU (t2m (List.mem_of_getElem? (i := 186) rfl)) rfl
theorem lv_X6_copyFrom : Cond.selects RX6 yX6_copyFrom yX6_copyFrom ∈ wsU := mU (t2m (List.mem_of_getElem? (i := 187) rfl)) rfl
theorem lc_X6_copyFrom : Cond.code yX6_copyFrom cX6_copyFrom 2 (Option.none : Option FieldType) ∈ wsU := mU (t2m (List.mem_of_getElem? (i := 188) rfl)) rfl
theorem lm_X9_80 : Cond.methodLink RX9 80 yX2_changeSetting ∈ wsU := mU (t2m (List.mem_of_getElem? (i := 189) rfl)) rfl
theorem li_X2_changeSetting : Cond.instanceMethod yX2_changeSetting ∈ wsU := mU (t2m (List.mem_of_getElem? (i := 190) rfl)) rfl
theorem lv_X2_changeSetting : Cond.selects RX2 yX2_changeSetting yX2_changeSetting ∈ wsU := mU (t2m (List.mem_of_getElem? (i := 191) rfl)) rfl
theorem lc_X2_changeSetting : Cond.code yX2_changeSetting cX2_changeSetting 3 (Option.none : Option FieldType) ∈ wsU := mU (t2m (List.mem_of_getElem? (i := 192) rfl)) rfl
theorem lm_X9_84 : Cond.methodLink RX9 84 yX2_startAnew ∈ wsU := mU (t2m (List.mem_of_getElem? (i := 193) rfl)) rfl
theorem li_X2_startAnew : Cond.instanceMethod yX2_startAnew ∈ wsU := mU (t2m (List.mem_of_getElem? (i := 194) rfl)) rfl
theorem lv_X2_startAnew : Cond.selects RX2 yX2_startAnew yX2_startAnew ∈ wsU := mU (t2m (List.mem_of_getElem? (i := 195) rfl)) rfl
theorem lc_X2_startAnew : Cond.code yX2_startAnew cX2_startAnew 1 (Option.none : Option FieldType) ∈ wsU := mU (t2m (List.mem_of_getElem? (i := 196) rfl)) rfl
theorem lm_X2_50 : Cond.methodLink RX2 50 yX6_startAnew ∈ wsU := mU (t2m (List.mem_of_getElem? (i := 197) rfl)) rfl
theorem li_X6_startAnew : Cond.instanceMethod yX6_startAnew ∈ wsU := mU (t2m (List.mem_of_getElem? (i := 198) rfl)) rfl
theorem lv_X6_startAnew : Cond.selects RX6 yX6_startAnew yX6_startAnew ∈ wsU := mU (t2m (List.mem_of_getElem? (i := 199) rfl)) rfl
theorem lc_X6_startAnew : Cond.code yX6_startAnew cX6_startAnew 1 (Option.none : Option FieldType) ∈ wsU := mU (t2m (List.mem_of_getElem? (i := 200) rfl)) rfl
theorem lm_L_30 : Cond.methodLink RL 30 yL_isNew ∈ wsU := mU (t2m (List.mem_of_getElem? (i := 201) rfl)) rfl
theorem ls_L_isNew : Cond.static yL_isNew ∈ wsU := mU (t2m (List.mem_of_getElem? (i := 202) rfl)) rfl
theorem lc_L_isNew : Cond.code yL_isNew cL_isNew 3 (Option.some FieldType.boolean) ∈ wsU := mU (t2m (List.mem_of_getElem? (i := 203) rfl)) rfl
theorem lm_L_34 : Cond.methodLink RL 34 yX9_begin ∈ wsU := mU (t2m (List.mem_of_getElem? (i := 204) rfl)) rfl
theorem li_X9_begin : Cond.instanceMethod yX9_begin ∈ wsU := mU (t2m (List.mem_of_getElem? (i := 205) rfl)) rfl
theorem lv_X9_begin : Cond.selects RX9 yX9_begin yX9_begin ∈ wsU := mU (t2m (List.mem_of_getElem? (i := 206) rfl)) rfl
theorem lc_X9_begin : Cond.code yX9_begin cX9_begin 4 (Option.some FieldType.int) ∈ wsU := mU (t2m (List.mem_of_getElem? (i := 207) rfl)) rfl
theorem lm_L_40 : Cond.methodLink RL 40 yX9_play ∈ wsU := mU (t2m (List.mem_of_getElem? (i := 208) rfl)) rfl
theorem li_X9_play : Cond.instanceMethod yX9_play ∈ wsU := mU (t2m (List.mem_of_getElem? (i := 209) rfl)) rfl
theorem lv_X9_play : Cond.selects RX9 yX9_play yX9_play ∈ wsU := mU (t2m (List.mem_of_getElem? (i := 210) rfl)) rfl
theorem lc_X9_play : Cond.code yX9_play cX9_play 4 (Option.some FieldType.int) ∈ wsU := mU (t2m (List.mem_of_getElem? (i := 211) rfl)) rfl
theorem lm_X9_111 : Cond.methodLink RX9 111 yX2_playRound ∈ wsU := mU (t2m (List.mem_of_getElem? (i := 212) rfl)) rfl
theorem li_X2_playRound : Cond.instanceMethod yX2_playRound ∈ wsU := mU (t2m (List.mem_of_getElem? (i := 213) rfl)) rfl
theorem lv_X2_playRound : Cond.selects RX2 yX2_playRound yX2_playRound ∈ wsU := mU (t2m (List.mem_of_getElem? (i := 214) rfl)) rfl
theorem lc_X2_playRound : Cond.code yX2_playRound cX2_playRound 7 (Option.some FieldType.int) ∈ wsU := mU (t2m (List.mem_of_getElem? (i := 215) rfl)) rfl
theorem lm_X2_72 : Cond.methodLink RX2 72 yX2_takerOf ∈ wsU := mU (t2m (List.mem_of_getElem? (i := 216) rfl)) rfl
theorem lm_X2_82 : Cond.methodLink RX2 82 yX2_gainOf ∈ wsU := mU (t2m (List.mem_of_getElem? (i := 217) rfl)) rfl
theorem lm_L_44 : Cond.methodLink RL 44 yX9_save ∈ wsU := mU (t2m (List.mem_of_getElem? (i := 218) rfl)) rfl
theorem li_X9_save : Cond.instanceMethod yX9_save ∈ wsU := mU (t2m (List.mem_of_getElem? (i := 219) rfl)) rfl
theorem lv_X9_save : Cond.selects RX9 yX9_save yX9_save ∈ wsU := mU (t2m (List.mem_of_getElem? (i := 220) rfl)) rfl
theorem lc_X9_save : Cond.code yX9_save cX9_save 3 (Option.some FieldType.int) ∈ wsU := mU (t2m (List.mem_of_getElem? (i := 221) rfl)) rfl
theorem lm_X9_204 : Cond.methodLink RX9 204 yX9_isSlot ∈ wsU := mU (t2m (List.mem_of_getElem? (i := 222) rfl)) rfl
theorem ls_X9_isSlot : Cond.static yX9_isSlot ∈ wsU := mU (t2m (List.mem_of_getElem? (i := 223) rfl)) rfl
theorem lc_X9_isSlot : Cond.code yX9_isSlot cX9_isSlot 1 (Option.some FieldType.boolean) ∈ wsU := mU (t2m (List.mem_of_getElem? (i := 224) rfl)) rfl
theorem lm_X9_207 : Cond.methodLink RX9 207 yX9_slotOf ∈ wsU := mU (t2m (List.mem_of_getElem? (i := 225) rfl)) rfl
theorem li_X9_slotOf : Cond.instanceMethod yX9_slotOf ∈ wsU := mU (t2m (List.mem_of_getElem? (i := 227) rfl)) rfl
theorem lc_X9_slotOf : Cond.code yX9_slotOf cX9_slotOf 2 (Option.some (FieldType.object "BorrowedHours$Slot")) ∈ wsU := mU (t2m (List.mem_of_getElem? (i := 228) rfl)) rfl
theorem lm_X9_214 : Cond.methodLink RX9 214 yX2_copyFrom ∈ wsU := mU (t2m (List.mem_of_getElem? (i := 229) rfl)) rfl
theorem lm_L_47 : Cond.methodLink RL 47 yX9_restore ∈ wsU := mU (t2m (List.mem_of_getElem? (i := 230) rfl)) rfl
theorem li_X9_restore : Cond.instanceMethod yX9_restore ∈ wsU := mU (t2m (List.mem_of_getElem? (i := 231) rfl)) rfl
theorem lv_X9_restore : Cond.selects RX9 yX9_restore yX9_restore ∈ wsU := mU (t2m (List.mem_of_getElem? (i := 232) rfl)) rfl
theorem lc_X9_restore : Cond.code yX9_restore cX9_restore 3 (Option.some FieldType.int) ∈ wsU := mU (t2m (List.mem_of_getElem? (i := 233) rfl)) rfl
theorem lm_L_50 : Cond.methodLink RL 50 yX9_undo ∈ wsU := mU (t2m (List.mem_of_getElem? (i := 234) rfl)) rfl
theorem li_X9_undo : Cond.instanceMethod yX9_undo ∈ wsU := mU (t2m (List.mem_of_getElem? (i := 235) rfl)) rfl
theorem lv_X9_undo : Cond.selects RX9 yX9_undo yX9_undo ∈ wsU := mU (t2m (List.mem_of_getElem? (i := 236) rfl)) rfl
theorem lc_X9_undo : Cond.code yX9_undo cX9_undo 1 (Option.some FieldType.int) ∈ wsU := mU (t2m (List.mem_of_getElem? (i := 237) rfl)) rfl
theorem lm_X9_201 : Cond.methodLink RX9 201 yX3_takeBack ∈ wsU := mU (t2m (List.mem_of_getElem? (i := 238) rfl)) rfl
theorem li_X3_takeBack : Cond.instanceMethod yX3_takeBack ∈ wsU := mU (t2m (List.mem_of_getElem? (i := 239) rfl)) rfl
theorem lv_X3_takeBack : Cond.selects RX3 yX3_takeBack yX3_takeBack ∈ wsU := mU (t3m (List.mem_of_getElem? (i := 0) rfl)) rfl
theorem lc_X3_takeBack : Cond.code yX3_takeBack cX3_takeBack 3 (Option.none : Option FieldType) ∈ wsU := mU (t3m (List.mem_of_getElem? (i := 1) rfl)) rfl
theorem lm_L_56 : Cond.methodLink RL 56 yX9_round ∈ wsU := mU (t3m (List.mem_of_getElem? (i := 2) rfl)) rfl
theorem li_X9_round : Cond.instanceMethod yX9_round ∈ wsU := mU (t3m (List.mem_of_getElem? (i := 3) rfl)) rfl
theorem lv_X9_round : Cond.selects RX9 yX9_round yX9_round ∈ wsU := mU (t3m (List.mem_of_getElem? (i := 4) rfl)) rfl
theorem lc_X9_round : Cond.code yX9_round cX9_round 3 (Option.some FieldType.int) ∈ wsU := mU (t3m (List.mem_of_getElem? (i := 5) rfl)) rfl
theorem lm_L_59 : Cond.methodLink RL 59 yL_isRound ∈ wsU := mU (t3m (List.mem_of_getElem? (i := 6) rfl)) rfl
theorem ls_L_isRound : Cond.static yL_isRound ∈ wsU := mU (t3m (List.mem_of_getElem? (i := 7) rfl)) rfl
theorem lc_L_isRound : Cond.code yL_isRound cL_isRound 17 (Option.some FieldType.boolean) ∈ wsU := mU (t3m (List.mem_of_getElem? (i := 8) rfl)) rfl
theorem lm_L_63 : Cond.methodLink RL 63 yX9_wipe ∈ wsU := mU (t3m (List.mem_of_getElem? (i := 9) rfl)) rfl
theorem li_X9_wipe : Cond.instanceMethod yX9_wipe ∈ wsU := mU (t3m (List.mem_of_getElem? (i := 10) rfl)) rfl
theorem lv_X9_wipe : Cond.selects RX9 yX9_wipe yX9_wipe ∈ wsU := mU (t3m (List.mem_of_getElem? (i := 11) rfl)) rfl
theorem lc_X9_wipe : Cond.code yX9_wipe cX9_wipe 2 (Option.some FieldType.int) ∈ wsU := mU (t3m (List.mem_of_getElem? (i := 12) rfl)) rfl
theorem lm_X9_138 : Cond.methodLink RX9 138 yX5_clear ∈ wsU := mU (t3m (List.mem_of_getElem? (i := 13) rfl)) rfl
theorem li_X5_clear : Cond.instanceMethod yX5_clear ∈ wsU := mU (t3m (List.mem_of_getElem? (i := 14) rfl)) rfl
theorem lv_X5_clear : Cond.selects RX5 yX5_clear yX5_clear ∈ wsU := mU (t3m (List.mem_of_getElem? (i := 15) rfl)) rfl
theorem lc_X5_clear : Cond.code yX5_clear cX5_clear 1 (Option.none : Option FieldType) ∈ wsU := mU (t3m (List.mem_of_getElem? (i := 16) rfl)) rfl
theorem lm_L_66 : Cond.methodLink RL 66 yL_number ∈ wsU := mU (t3m (List.mem_of_getElem? (i := 17) rfl)) rfl
theorem ls_L_number : Cond.static yL_number ∈ wsU := mU (t3m (List.mem_of_getElem? (i := 18) rfl)) rfl
theorem lc_L_number : Cond.code yL_number cL_number 2 (Option.some FieldType.boolean) ∈ wsU := mU (t3m (List.mem_of_getElem? (i := 19) rfl)) rfl
theorem lq_L_9 : Cond.constantLong RL 9 (49 : Int64) ∈ wsU := mU (t3m (List.mem_of_getElem? (i := 20) rfl)) rfl
theorem lm_L_11 : Cond.methodLink RL 11 yX9_put ∈ wsU := mU (t3m (List.mem_of_getElem? (i := 21) rfl)) rfl
theorem li_X9_put : Cond.instanceMethod yX9_put ∈ wsU := mU (t3m (List.mem_of_getElem? (i := 22) rfl)) rfl
theorem lv_X9_put : Cond.selects RX9 yX9_put yX9_put ∈ wsU := mU (t3m (List.mem_of_getElem? (i := 23) rfl)) rfl
theorem lc_X9_put : Cond.code yX9_put cX9_put 4 (Option.some FieldType.int) ∈ wsU := mU (t3m (List.mem_of_getElem? (i := 24) rfl)) rfl
theorem lm_X9_193 : Cond.methodLink RX9 193 yX5_countSigns ∈ wsU := mU (t3m (List.mem_of_getElem? (i := 25) rfl)) rfl
theorem ls_X5_countSigns : Cond.static yX5_countSigns ∈ wsU := mU (t3m (List.mem_of_getElem? (i := 26) rfl)) rfl
theorem lc_X5_countSigns : Cond.code yX5_countSigns cX5_countSigns 6 (Option.some FieldType.int) ∈ wsU := mU (t3m (List.mem_of_getElem? (i := 27) rfl)) rfl
theorem lq_X5_15 : Cond.constantLong RX5 15 (255 : Int64) ∈ wsU := mU (t3m (List.mem_of_getElem? (i := 28) rfl)) rfl
theorem lm_X9_197 : Cond.methodLink RX9 197 yX5_append ∈ wsU := mU (t3m (List.mem_of_getElem? (i := 29) rfl)) rfl
theorem li_X5_append : Cond.instanceMethod yX5_append ∈ wsU := mU (t3m (List.mem_of_getElem? (i := 30) rfl)) rfl
theorem lv_X5_append : Cond.selects RX5 yX5_append yX5_append ∈ wsU := mU (t3m (List.mem_of_getElem? (i := 31) rfl)) rfl
theorem lc_X5_append : Cond.code yX5_append cX5_append 5 (Option.none : Option FieldType) ∈ wsU := mU (t3m (List.mem_of_getElem? (i := 32) rfl)) rfl
theorem lq_L_70 : Cond.constantLong RL 70 (58 : Int64) ∈ wsU := mU (t3m (List.mem_of_getElem? (i := 33) rfl)) rfl
theorem lm_L_72 : Cond.methodLink RL 72 yX9_run ∈ wsU := mU (t3m (List.mem_of_getElem? (i := 34) rfl)) rfl
theorem li_X9_run : Cond.instanceMethod yX9_run ∈ wsU := mU (t3m (List.mem_of_getElem? (i := 35) rfl)) rfl
theorem lv_X9_run : Cond.selects RX9 yX9_run yX9_run ∈ wsU := mU (t3m (List.mem_of_getElem? (i := 36) rfl)) rfl
theorem lc_X9_run : Cond.code yX9_run cX9_run 2 (Option.some FieldType.int) ∈ wsU := mU (t3m (List.mem_of_getElem? (i := 37) rfl)) rfl
theorem lm_X9_131 : Cond.methodLink RX9 131 yX5_firstFault ∈ wsU := mU (t3m (List.mem_of_getElem? (i := 38) rfl)) rfl
theorem li_X5_firstFault : Cond.instanceMethod yX5_firstFault ∈ wsU := mU (t3m (List.mem_of_getElem? (i := 39) rfl)) rfl
theorem lv_X5_firstFault : Cond.selects RX5 yX5_firstFault yX5_firstFault ∈ wsU := mU (t3m (List.mem_of_getElem? (i := 40) rfl)) rfl
theorem lc_X5_firstFault : Cond.code yX5_firstFault cX5_firstFault 5 (Option.some FieldType.int) ∈ wsU := mU (t3m (List.mem_of_getElem? (i := 41) rfl)) rfl
theorem lm_X5_21 : Cond.methodLink RX5 21 yX5_signAt ∈ wsU := mU (t3m (List.mem_of_getElem? (i := 42) rfl)) rfl
theorem li_X5_signAt : Cond.instanceMethod yX5_signAt ∈ wsU := mU (t3m (List.mem_of_getElem? (i := 43) rfl)) rfl
theorem lv_X5_signAt : Cond.selects RX5 yX5_signAt yX5_signAt ∈ wsU := mU (t3m (List.mem_of_getElem? (i := 44) rfl)) rfl
theorem lc_X5_signAt : Cond.code yX5_signAt cX5_signAt 2 (Option.some FieldType.int) ∈ wsU := mU (t3m (List.mem_of_getElem? (i := 45) rfl)) rfl
theorem lm_X5_25 : Cond.methodLink RX5 25 yX5_canStandAsDigit ∈ wsU := mU (t3m (List.mem_of_getElem? (i := 46) rfl)) rfl
theorem ls_X5_canStandAsDigit : Cond.static yX5_canStandAsDigit ∈ wsU := mU (t3m (List.mem_of_getElem? (i := 47) rfl)) rfl
theorem lc_X5_canStandAsDigit : Cond.code yX5_canStandAsDigit cX5_canStandAsDigit 2 (Option.some FieldType.boolean) ∈ wsU := mU (t3m (List.mem_of_getElem? (i := 48) rfl)) rfl
theorem lm_X9_135 : Cond.methodLink RX9 135 yX9_playPad ∈ wsU := mU (t3m (List.mem_of_getElem? (i := 49) rfl)) rfl
theorem li_X9_playPad : Cond.instanceMethod yX9_playPad ∈ wsU := mU (t3m (List.mem_of_getElem? (i := 51) rfl)) rfl
theorem lc_X9_playPad : Cond.code yX9_playPad cX9_playPad 6 (Option.some FieldType.int) ∈ wsU := mU (t3m (List.mem_of_getElem? (i := 52) rfl)) rfl
theorem lm_X9_234 : Cond.methodLink RX9 234 yX5_signAt ∈ wsU := mU (t3m (List.mem_of_getElem? (i := 53) rfl)) rfl
theorem lm_L_96 : Cond.methodLink RL 96 yL_isWell ∈ wsU := mU (t3m (List.mem_of_getElem? (i := 54) rfl)) rfl
theorem ls_L_isWell : Cond.static yL_isWell ∈ wsU := mU (t3m (List.mem_of_getElem? (i := 55) rfl)) rfl
theorem lc_L_isWell : Cond.code yL_isWell cL_isWell 7 (Option.some FieldType.boolean) ∈ wsU := mU (t3m (List.mem_of_getElem? (i := 56) rfl)) rfl
theorem lm_L_75 : Cond.methodLink RL 75 yX9_forced ∈ wsU := mU (t3m (List.mem_of_getElem? (i := 57) rfl)) rfl
theorem li_X9_forced : Cond.instanceMethod yX9_forced ∈ wsU := mU (t3m (List.mem_of_getElem? (i := 58) rfl)) rfl
theorem lv_X9_forced : Cond.selects RX9 yX9_forced yX9_forced ∈ wsU := mU (t3m (List.mem_of_getElem? (i := 59) rfl)) rfl
theorem lc_X9_forced : Cond.code yX9_forced cX9_forced 3 (Option.some FieldType.int) ∈ wsU := mU (t3m (List.mem_of_getElem? (i := 60) rfl)) rfl
theorem lm_L_78 : Cond.methodLink RL 78 yX9_ahead ∈ wsU := mU (t3m (List.mem_of_getElem? (i := 61) rfl)) rfl
theorem li_X9_ahead : Cond.instanceMethod yX9_ahead ∈ wsU := mU (t3m (List.mem_of_getElem? (i := 62) rfl)) rfl
theorem lv_X9_ahead : Cond.selects RX9 yX9_ahead yX9_ahead ∈ wsU := mU (t3m (List.mem_of_getElem? (i := 63) rfl)) rfl
theorem lc_X9_ahead : Cond.code yX9_ahead cX9_ahead 3 (Option.some FieldType.int) ∈ wsU := mU (t3m (List.mem_of_getElem? (i := 64) rfl)) rfl
theorem lm_X9_184 : Cond.methodLink RX9 184 yX1_seesWinOf ∈ wsU := mU (t3m (List.mem_of_getElem? (i := 65) rfl)) rfl
theorem li_X1_seesWinOf : Cond.instanceMethod yX1_seesWinOf ∈ wsU := mU (t3m (List.mem_of_getElem? (i := 66) rfl)) rfl
theorem lv_X1_seesWinOf : Cond.selects RX1 yX1_seesWinOf yX1_seesWinOf ∈ wsU := mU (t3m (List.mem_of_getElem? (i := 67) rfl)) rfl
theorem lc_X1_seesWinOf : Cond.code yX1_seesWinOf cX1_seesWinOf 5 (Option.some FieldType.boolean) ∈ wsU := mU (t3m (List.mem_of_getElem? (i := 68) rfl)) rfl
theorem lm_X1_15 : Cond.methodLink RX1 15 yX2_mostOf ∈ wsU := mU (t3m (List.mem_of_getElem? (i := 69) rfl)) rfl
theorem lm_X1_21 : Cond.methodLink RX1 21 ⟨"java/lang/Math", "min", "(II)I"⟩ ∈ wsU := mU (t3m (List.mem_of_getElem? (i := 70) rfl)) rfl
theorem lm_X1_27 : Cond.methodLink RX1 27 yX2_toWin ∈ wsU := mU (t3m (List.mem_of_getElem? (i := 71) rfl)) rfl
theorem lm_X1_34 : Cond.methodLink RX1 34 yX1_seesWin ∈ wsU := mU (t3m (List.mem_of_getElem? (i := 72) rfl)) rfl
theorem li_X1_seesWin : Cond.instanceMethod yX1_seesWin ∈ wsU := mU (t3m (List.mem_of_getElem? (i := 74) rfl)) rfl
theorem lc_X1_seesWin : Cond.code yX1_seesWin cX1_seesWin 6 (Option.some FieldType.boolean) ∈ wsU := mU (t3m (List.mem_of_getElem? (i := 75) rfl)) rfl
theorem lm_X1_41 : Cond.methodLink RX1 41 yX1_seesBid ∈ wsU := mU (t3m (List.mem_of_getElem? (i := 76) rfl)) rfl
theorem li_X1_seesBid : Cond.instanceMethod yX1_seesBid ∈ wsU := mU (t3m (List.mem_of_getElem? (i := 78) rfl)) rfl
theorem lc_X1_seesBid : Cond.code yX1_seesBid cX1_seesBid 6 (Option.some FieldType.boolean) ∈ wsU := mU (t3m (List.mem_of_getElem? (i := 79) rfl)) rfl
theorem lm_X1_48 : Cond.methodLink RX1 48 yX1_standsAllAnswers ∈ wsU := mU (t3m (List.mem_of_getElem? (i := 80) rfl)) rfl
theorem li_X1_standsAllAnswers : Cond.instanceMethod yX1_standsAllAnswers ∈ wsU := mU (t3m (List.mem_of_getElem? (i := 82) rfl)) rfl
theorem lc_X1_standsAllAnswers : Cond.code yX1_standsAllAnswers cX1_standsAllAnswers 7 (Option.some FieldType.boolean) ∈ wsU := mU (t3m (List.mem_of_getElem? (i := 83) rfl)) rfl
theorem lm_X1_52 : Cond.methodLink RX1 52 yX1_canTake ∈ wsU := mU (t3m (List.mem_of_getElem? (i := 84) rfl)) rfl
theorem li_X1_canTake : Cond.instanceMethod yX1_canTake ∈ wsU := mU (t3m (List.mem_of_getElem? (i := 86) rfl)) rfl
theorem lc_X1_canTake : Cond.code yX1_canTake cX1_canTake 2 (Option.some FieldType.boolean) ∈ wsU := mU (t3m (List.mem_of_getElem? (i := 87) rfl)) rfl
theorem lm_X1_56 : Cond.methodLink RX1 56 yX1_seesTaken ∈ wsU := mU (t3m (List.mem_of_getElem? (i := 88) rfl)) rfl
theorem li_X1_seesTaken : Cond.instanceMethod yX1_seesTaken ∈ wsU := mU (t3m (List.mem_of_getElem? (i := 90) rfl)) rfl
theorem lc_X1_seesTaken : Cond.code yX1_seesTaken cX1_seesTaken 7 (Option.some FieldType.boolean) ∈ wsU := mU (t3m (List.mem_of_getElem? (i := 91) rfl)) rfl
theorem lm_X1_72 : Cond.methodLink RX1 72 yX2_gainOf ∈ wsU := mU (t3m (List.mem_of_getElem? (i := 92) rfl)) rfl
theorem lm_X1_60 : Cond.methodLink RX1 60 yX1_leastTaking ∈ wsU := mU (t3m (List.mem_of_getElem? (i := 93) rfl)) rfl
theorem li_X1_leastTaking : Cond.instanceMethod yX1_leastTaking ∈ wsU := mU (t3m (List.mem_of_getElem? (i := 95) rfl)) rfl
theorem lc_X1_leastTaking : Cond.code yX1_leastTaking cX1_leastTaking 2 (Option.some FieldType.int) ∈ wsU := mU (t3m (List.mem_of_getElem? (i := 96) rfl)) rfl
theorem lm_X1_63 : Cond.methodLink RX1 63 yX1_seesLost ∈ wsU := mU (t3m (List.mem_of_getElem? (i := 97) rfl)) rfl
theorem li_X1_seesLost : Cond.instanceMethod yX1_seesLost ∈ wsU := mU (t3m (List.mem_of_getElem? (i := 99) rfl)) rfl
theorem lc_X1_seesLost : Cond.code yX1_seesLost cX1_seesLost 7 (Option.some FieldType.boolean) ∈ wsU := mU (t3m (List.mem_of_getElem? (i := 100) rfl)) rfl
theorem lm_X1_45 : Cond.methodLink RX1 45 yX1_seesAnswers ∈ wsU := mU (t3m (List.mem_of_getElem? (i := 101) rfl)) rfl
theorem li_X1_seesAnswers : Cond.instanceMethod yX1_seesAnswers ∈ wsU := mU (t3m (List.mem_of_getElem? (i := 103) rfl)) rfl
theorem lc_X1_seesAnswers : Cond.code yX1_seesAnswers cX1_seesAnswers 6 (Option.some FieldType.boolean) ∈ wsU := mU (t3m (List.mem_of_getElem? (i := 104) rfl)) rfl
theorem lm_X1_66 : Cond.methodLink RX1 66 yX1_hasAnswer ∈ wsU := mU (t3m (List.mem_of_getElem? (i := 105) rfl)) rfl
theorem li_X1_hasAnswer : Cond.instanceMethod yX1_hasAnswer ∈ wsU := mU (t3m (List.mem_of_getElem? (i := 107) rfl)) rfl
theorem lc_X1_hasAnswer : Cond.code yX1_hasAnswer cX1_hasAnswer 7 (Option.some FieldType.boolean) ∈ wsU := mU (t3m (List.mem_of_getElem? (i := 108) rfl)) rfl
theorem lv_X9_timeWith : Cond.selects RX9 yX9_timeWith yX9_timeWith ∈ wsU := mU (List.mem_append_left _ (List.mem_map.mpr ⟨(yX9_timeWith, 8), List.mem_append_left _ (List.mem_of_getElem? (i := 0) rfl), rfl⟩)) rfl
theorem lv_X8_learnRounds : Cond.selects RX8 yX8_learnRounds yX8_learnRounds ∈ wsU := mU (List.mem_append_left _ (List.mem_map.mpr ⟨(yX8_learnRounds, 7), List.mem_append_left _ (List.mem_of_getElem? (i := 1) rfl), rfl⟩)) rfl
theorem lv_X8_bidForces : Cond.selects RX8 yX8_bidForces yX8_bidForces ∈ wsU := mU (List.mem_append_left _ (List.mem_map.mpr ⟨(yX8_bidForces, 7), List.mem_append_left _ (List.mem_of_getElem? (i := 2) rfl), rfl⟩)) rfl
theorem lv_X8_lost : Cond.selects RX8 yX8_lost yX8_lost ∈ wsU := mU (List.mem_append_left _ (List.mem_map.mpr ⟨(yX8_lost, 7), List.mem_append_left _ (List.mem_of_getElem? (i := 3) rfl), rfl⟩)) rfl
theorem lv_X8_neverTakes : Cond.selects RX8 yX8_neverTakes yX8_neverTakes ∈ wsU := mU (List.mem_append_left _ (List.mem_map.mpr ⟨(yX8_neverTakes, 7), List.mem_append_left _ (List.mem_of_getElem? (i := 4) rfl), rfl⟩)) rfl
theorem lv_X8_taken : Cond.selects RX8 yX8_taken yX8_taken ∈ wsU := mU (List.mem_append_left _ (List.mem_map.mpr ⟨(yX8_taken, 7), List.mem_append_left _ (List.mem_of_getElem? (i := 5) rfl), rfl⟩)) rfl
theorem lv_X8_answerForces : Cond.selects RX8 yX8_answerForces yX8_answerForces ∈ wsU := mU (List.mem_append_left _ (List.mem_map.mpr ⟨(yX8_answerForces, 7), List.mem_append_left _ (List.mem_of_getElem? (i := 6) rfl), rfl⟩)) rfl
theorem lv_X9_timesNow : Cond.selects RX9 yX9_timesNow yX9_timesNow ∈ wsU := mU (List.mem_append_left _ (List.mem_map.mpr ⟨(yX9_timesNow, 8), List.mem_append_left _ (List.mem_of_getElem? (i := 7) rfl), rfl⟩)) rfl
theorem lv_X0_longestOwn : Cond.selects RX0 yX0_longestOwn yX0_longestOwn ∈ wsU := mU (List.mem_append_left _ (List.mem_map.mpr ⟨(yX0_longestOwn, 1), List.mem_append_left _ (List.mem_of_getElem? (i := 8) rfl), rfl⟩)) rfl
theorem lv_X0_timeBehind : Cond.selects RX0 yX0_timeBehind yX0_timeBehind ∈ wsU := mU (List.mem_append_left _ (List.mem_map.mpr ⟨(yX0_timeBehind, 1), List.mem_append_left _ (List.mem_of_getElem? (i := 9) rfl), rfl⟩)) rfl
theorem lv_X0_findDelay : Cond.selects RX0 yX0_findDelay yX0_findDelay ∈ wsU := mU (List.mem_append_left _ (List.mem_map.mpr ⟨(yX0_findDelay, 1), List.mem_append_left _ (List.mem_of_getElem? (i := 10) rfl), rfl⟩)) rfl
theorem lv_X0_leastOther : Cond.selects RX0 yX0_leastOther yX0_leastOther ∈ wsU := mU (List.mem_append_left _ (List.mem_map.mpr ⟨(yX0_leastOther, 1), List.mem_append_left _ (List.mem_of_getElem? (i := 11) rfl), rfl⟩)) rfl
theorem lv_X3_dropOldest : Cond.selects RX3 yX3_dropOldest yX3_dropOldest ∈ wsU := mU (List.mem_append_left _ (List.mem_map.mpr ⟨(yX3_dropOldest, 2), List.mem_append_left _ (List.mem_of_getElem? (i := 12) rfl), rfl⟩)) rfl
theorem lv_X9_slotOf : Cond.selects RX9 yX9_slotOf yX9_slotOf ∈ wsU := mU (List.mem_append_left _ (List.mem_map.mpr ⟨(yX9_slotOf, 8), List.mem_append_left _ (List.mem_of_getElem? (i := 13) rfl), rfl⟩)) rfl
theorem lv_X9_playPad : Cond.selects RX9 yX9_playPad yX9_playPad ∈ wsU := mU (List.mem_append_left _ (List.mem_map.mpr ⟨(yX9_playPad, 8), List.mem_append_left _ (List.mem_of_getElem? (i := 14) rfl), rfl⟩)) rfl
theorem lv_X1_seesWin : Cond.selects RX1 yX1_seesWin yX1_seesWin ∈ wsU := mU (List.mem_append_left _ (List.mem_map.mpr ⟨(yX1_seesWin, 1), List.mem_append_left _ (List.mem_of_getElem? (i := 15) rfl), rfl⟩)) rfl
theorem lv_X1_seesBid : Cond.selects RX1 yX1_seesBid yX1_seesBid ∈ wsU := mU (List.mem_append_left _ (List.mem_map.mpr ⟨(yX1_seesBid, 1), List.mem_append_right _ (List.mem_of_getElem? (i := 0) rfl), rfl⟩)) rfl
theorem lv_X1_standsAllAnswers : Cond.selects RX1 yX1_standsAllAnswers yX1_standsAllAnswers ∈ wsU := mU (List.mem_append_left _ (List.mem_map.mpr ⟨(yX1_standsAllAnswers, 1), List.mem_append_right _ (List.mem_of_getElem? (i := 1) rfl), rfl⟩)) rfl
theorem lv_X1_canTake : Cond.selects RX1 yX1_canTake yX1_canTake ∈ wsU := mU (List.mem_append_left _ (List.mem_map.mpr ⟨(yX1_canTake, 1), List.mem_append_right _ (List.mem_of_getElem? (i := 2) rfl), rfl⟩)) rfl
theorem lv_X1_seesTaken : Cond.selects RX1 yX1_seesTaken yX1_seesTaken ∈ wsU := mU (List.mem_append_left _ (List.mem_map.mpr ⟨(yX1_seesTaken, 1), List.mem_append_right _ (List.mem_of_getElem? (i := 3) rfl), rfl⟩)) rfl
theorem lv_X1_leastTaking : Cond.selects RX1 yX1_leastTaking yX1_leastTaking ∈ wsU := mU (List.mem_append_left _ (List.mem_map.mpr ⟨(yX1_leastTaking, 1), List.mem_append_right _ (List.mem_of_getElem? (i := 4) rfl), rfl⟩)) rfl
theorem lv_X1_seesLost : Cond.selects RX1 yX1_seesLost yX1_seesLost ∈ wsU := mU (List.mem_append_left _ (List.mem_map.mpr ⟨(yX1_seesLost, 1), List.mem_append_right _ (List.mem_of_getElem? (i := 5) rfl), rfl⟩)) rfl
theorem lv_X1_seesAnswers : Cond.selects RX1 yX1_seesAnswers yX1_seesAnswers ∈ wsU := mU (List.mem_append_left _ (List.mem_map.mpr ⟨(yX1_seesAnswers, 1), List.mem_append_right _ (List.mem_of_getElem? (i := 6) rfl), rfl⟩)) rfl
theorem lv_X1_hasAnswer : Cond.selects RX1 yX1_hasAnswer yX1_hasAnswer ∈ wsU := mU (List.mem_append_left _ (List.mem_map.mpr ⟨(yX1_hasAnswer, 1), List.mem_append_right _ (List.mem_of_getElem? (i := 7) rfl), rfl⟩)) rfl
theorem inUX0 : ∀ w ∈ u_ws RX0 TX0 1, w ∈ wsU := u_all (fun k hk => match k, hk with | 0, _ => ly_X0_game | (j + 1), h => absurd h (by omega))
theorem inUX1 : ∀ w ∈ u_ws RX1 TX1 1, w ∈ wsU := u_all (fun k hk => match k, hk with | 0, _ => ly_X1_game | (j + 1), h => absurd h (by omega))
theorem inUX2 : ∀ w ∈ u_ws RX2 TX2 10, w ∈ wsU := u_all (fun k hk => match k, hk with | 0, _ => ly_X2_end | 1, _ => ly_X2_loan | 2, _ => ly_X2_pays | 3, _ => ly_X2_tie | 4, _ => ly_X2_hand | 5, _ => ly_X2_first | 6, _ => ly_X2_rounds | 7, _ => ly_X2_clock | 8, _ => ly_X2_zero | 9, _ => ly_X2_one | (j + 10), h => absurd h (by omega))
theorem inUX3 : ∀ w ∈ u_ws RX3 TX3 2, w ∈ wsU := u_all (fun k hk => match k, hk with | 0, _ => ly_X3_states | 1, _ => ly_X3_size | (j + 2), h => absurd h (by omega))
theorem inUX4 : ∀ w ∈ u_ws RX4 TX4 1, w ∈ wsU := u_all (fun k hk => match k, hk with | 0, _ => ly_X4_tables | (j + 1), h => absurd h (by omega))
theorem inUX5 : ∀ w ∈ u_ws RX5 TX5 2, w ∈ wsU := u_all (fun k hk => match k, hk with | 0, _ => ly_X5_signs | 1, _ => ly_X5_length | (j + 2), h => absurd h (by omega))
theorem inUX6 : ∀ w ∈ u_ws RX6 TX6 5, w ∈ wsU := u_all (fun k hk => match k, hk with | 0, _ => ly_X6_began | 1, _ => ly_X6_hours | 2, _ => ly_X6_paid | 3, _ => ly_X6_took | 4, _ => ly_X6_won | (j + 5), h => absurd h (by omega))
theorem inUX7 : ∀ w ∈ u_ws RX7 TX7 2, w ∈ wsU := u_all (fun k hk => match k, hk with | 0, _ => ly_X7_saved | 1, _ => ly_X7_filled | (j + 2), h => absurd h (by omega))
theorem inUX8 : ∀ w ∈ u_ws RX8 TX8 7, w ∈ wsU := u_all (fun k hk => match k, hk with | 0, _ => ly_X8_end | 1, _ => ly_X8_tie | 2, _ => ly_X8_sumStays | 3, _ => ly_X8_top | 4, _ => ly_X8_owns | 5, _ => ly_X8_foes | 6, _ => ly_X8_times | (j + 7), h => absurd h (by omega))
theorem inUX9 : ∀ w ∈ u_ws RX9 TX9 8, w ∈ wsU := u_all (fun k hk => match k, hk with | 0, _ => ly_X9_game | 1, _ => ly_X9_history | 2, _ => ly_X9_slotZero | 3, _ => ly_X9_slotOne | 4, _ => ly_X9_pad | 5, _ => ly_X9_memory | 6, _ => ly_X9_advice | 7, _ => ly_X9_foresight | (j + 8), h => absurd h (by omega))
theorem gv_L_37 : GoodIn wsU (wsV RL 37 RX9 yX9_player (.code yX9_player cX9_player 5 (Option.some FieldType.int) :: wsU)) := good_V lm_L_37 li_X9_player lv_X9_player ln_X9 lc_X9_player
theorem gs_X9_141 : GoodIn wsU (wsS RX9 141 yX9_isPlayer (.code yX9_isPlayer cX9_isPlayer 1 (Option.some FieldType.boolean) :: wsU)) := good_S lm_X9_141 ls_X9_isPlayer ln_X9 lc_X9_isPlayer
theorem gv_X9_144 : GoodIn wsU (wsV RX9 144 RX2 yX2_sideOf (.code yX2_sideOf cX2_sideOf 2 (Option.some (FieldType.object "BorrowedHours$Side")) :: wsU)) := good_V lm_X9_144 li_X2_sideOf lv_X2_sideOf ln_X2 lc_X2_sideOf
theorem gv_X9_151 : GoodIn wsU (wsV RX9 151 RX2 yX2_mostOf (.code yX2_mostOf cX2_mostOf 2 (Option.some FieldType.int) :: wsU)) := good_V lm_X9_151 li_X2_mostOf lv_X2_mostOf ln_X2 lc_X2_mostOf
theorem gv_X2_57 : GoodIn wsU (wsV RX2 57 RX2 yX2_sideOf (.code yX2_sideOf cX2_sideOf 2 (Option.some (FieldType.object "BorrowedHours$Side")) :: wsU)) := good_V lm_X2_57 li_X2_sideOf lv_X2_sideOf ln_X2 lc_X2_sideOf
theorem gv_X9_163 : GoodIn wsU (wsV RX9 163 RX9 yX9_timeWith (.code yX9_timeWith cX9_timeWith 5 (Option.some FieldType.int) :: wsU)) := good_V lm_X9_163 li_X9_timeWith lv_X9_timeWith ln_X9 lc_X9_timeWith
theorem gv_X9_221 : GoodIn wsU (wsV RX9 221 RX4 yX4_tableFor (.code yX4_tableFor cX4_tableFor 10 (Option.some (FieldType.object "BorrowedHours$Times")) :: wsU)) := good_V lm_X9_221 li_X4_tableFor lv_X4_tableFor ln_X4 lc_X4_tableFor
theorem gv_X4_41 : GoodIn wsU (wsV RX4 41 RX8 yX8_learnAll (.code yX8_learnAll cX8_learnAll 3 (Option.none : Option FieldType) :: wsU)) := good_V lm_X4_41 li_X8_learnAll lv_X8_learnAll ln_X8 lc_X8_learnAll
theorem gv_X8_41 : GoodIn wsU (wsV RX8 41 RX8 yX8_learnRounds (.code yX8_learnRounds cX8_learnRounds 7 (Option.some FieldType.boolean) :: wsU)) := good_V lm_X8_41 li_X8_learnRounds lv_X8_learnRounds ln_X8 lc_X8_learnRounds
theorem gv_X8_45 : GoodIn wsU (wsV RX8 45 RX8 yX8_bidForces (.code yX8_bidForces cX8_bidForces 7 (Option.some FieldType.boolean) :: wsU)) := good_V lm_X8_45 li_X8_bidForces lv_X8_bidForces ln_X8 lc_X8_bidForces
theorem gv_X8_52 : GoodIn wsU (wsV RX8 52 RX8 yX8_lost (.code yX8_lost cX8_lost 8 (Option.some FieldType.boolean) :: wsU)) := good_V lm_X8_52 li_X8_lost lv_X8_lost ln_X8 lc_X8_lost
theorem gv_X8_62 : GoodIn wsU (wsV RX8 62 RX8 yX8_timeAt (.code yX8_timeAt cX8_timeAt 7 (Option.some FieldType.int) :: wsU)) := good_V lm_X8_62 li_X8_timeAt lv_X8_timeAt ln_X8 lc_X8_timeAt
theorem gv_X8_56 : GoodIn wsU (wsV RX8 56 RX8 yX8_neverTakes (.code yX8_neverTakes cX8_neverTakes 2 (Option.some FieldType.boolean) :: wsU)) := good_V lm_X8_56 li_X8_neverTakes lv_X8_neverTakes ln_X8 lc_X8_neverTakes
theorem gv_X8_59 : GoodIn wsU (wsV RX8 59 RX8 yX8_taken (.code yX8_taken cX8_taken 8 (Option.some FieldType.boolean) :: wsU)) := good_V lm_X8_59 li_X8_taken lv_X8_taken ln_X8 lc_X8_taken
theorem gv_X8_49 : GoodIn wsU (wsV RX8 49 RX8 yX8_answerForces (.code yX8_answerForces cX8_answerForces 7 (Option.some FieldType.boolean) :: wsU)) := good_V lm_X8_49 li_X8_answerForces lv_X8_answerForces ln_X8 lc_X8_answerForces
theorem gv_X9_225 : GoodIn wsU (wsV RX9 225 RX2 yX2_toWin (.code yX2_toWin cX2_toWin 2 (Option.some FieldType.int) :: wsU)) := good_V lm_X9_225 li_X2_toWin lv_X2_toWin ln_X2 lc_X2_toWin
theorem gv_X9_228 : GoodIn wsU (wsV RX9 228 RX8 yX8_timeAt (.code yX8_timeAt cX8_timeAt 7 (Option.some FieldType.int) :: wsU)) := good_V lm_X9_228 li_X8_timeAt lv_X8_timeAt ln_X8 lc_X8_timeAt
theorem gv_L_23 : GoodIn wsU (wsV RL 23 RX9 yX9_count (.code yX9_count cX9_count 2 (Option.some FieldType.int) :: wsU)) := good_V lm_L_23 li_X9_count lv_X9_count ln_X9 lc_X9_count
theorem gs_X9_63 : GoodIn wsU (wsS RX9 63 yX9_isSetting (.code yX9_isSetting cX9_isSetting 1 (Option.some FieldType.boolean) :: wsU)) := good_S lm_X9_63 ls_X9_isSetting ln_X9 lc_X9_isSetting
theorem gs_X9_87 : GoodIn wsU (wsS RX9 87 yX9_isBetween (.code yX9_isBetween cX9_isBetween 3 (Option.some FieldType.boolean) :: wsU)) := good_S lm_X9_87 ls_X9_isBetween ln_X9 lc_X9_isBetween
theorem gv_X9_74 : GoodIn wsU (wsV RX9 74 RX2 yX2_settingOf (.code yX2_settingOf cX2_settingOf 2 (Option.some FieldType.int) :: wsU)) := good_V lm_X9_74 li_X2_settingOf lv_X2_settingOf ln_X2 lc_X2_settingOf
theorem gv_X9_115 : GoodIn wsU (wsV RX9 115 RX2 yX2_isOver (.code yX2_isOver cX2_isOver 1 (Option.some FieldType.boolean) :: wsU)) := good_V lm_X9_115 li_X2_isOver lv_X2_isOver ln_X2 lc_X2_isOver
theorem gv_X2_53 : GoodIn wsU (wsV RX2 53 RX2 yX2_winner (.code yX2_winner cX2_winner 1 (Option.some FieldType.int) :: wsU)) := good_V lm_X2_53 li_X2_winner lv_X2_winner ln_X2 lc_X2_winner
theorem gv_X9_172 : GoodIn wsU (wsV RX9 172 RX2 yX2_winner (.code yX2_winner cX2_winner 1 (Option.some FieldType.int) :: wsU)) := good_V lm_X9_172 li_X2_winner lv_X2_winner ln_X2 lc_X2_winner
theorem gv_L_84 : GoodIn wsU (wsV RL 84 RX9 yX9_bestBid (.code yX9_bestBid cX9_bestBid 1 (Option.some FieldType.int) :: wsU)) := good_V lm_L_84 li_X9_bestBid lv_X9_bestBid ln_X9 lc_X9_bestBid
theorem gv_X9_119 : GoodIn wsU (wsV RX9 119 RX9 yX9_timesNow (.code yX9_timesNow cX9_timesNow 1 (Option.some (FieldType.object "BorrowedHours$Times")) :: wsU)) := good_V lm_X9_119 li_X9_timesNow lv_X9_timesNow ln_X9 lc_X9_timesNow
theorem gv_X9_123 : GoodIn wsU (wsV RX9 123 RX0 yX0_findBid (.code yX0_findBid cX0_findBid 7 (Option.some FieldType.int) :: wsU)) := good_V lm_X9_123 li_X0_findBid lv_X0_findBid ln_X0 lc_X0_findBid
theorem gv_X0_21 : GoodIn wsU (wsV RX0 21 RX2 yX2_mostOf (.code yX2_mostOf cX2_mostOf 2 (Option.some FieldType.int) :: wsU)) := good_V lm_X0_21 li_X2_mostOf lv_X2_mostOf ln_X2 lc_X2_mostOf
theorem gv_X0_25 : GoodIn wsU (wsV RX0 25 RX0 yX0_longestOwn (.code yX0_longestOwn cX0_longestOwn 6 (Option.some FieldType.int) :: wsU)) := good_V lm_X0_25 li_X0_longestOwn lv_X0_longestOwn ln_X0 lc_X0_longestOwn
theorem gv_X0_36 : GoodIn wsU (wsV RX0 36 RX0 yX0_timeBehind (.code yX0_timeBehind cX0_timeBehind 13 (Option.some FieldType.int) :: wsU)) := good_V lm_X0_36 li_X0_timeBehind lv_X0_timeBehind ln_X0 lc_X0_timeBehind
theorem gv_X0_49 : GoodIn wsU (wsV RX0 49 RX2 yX2_takerOf (.code yX2_takerOf cX2_takerOf 4 (Option.some FieldType.int) :: wsU)) := good_V lm_X0_49 li_X2_takerOf lv_X2_takerOf ln_X2 lc_X2_takerOf
theorem gv_X0_52 : GoodIn wsU (wsV RX0 52 RX2 yX2_gainOf (.code yX2_gainOf cX2_gainOf 2 (Option.some FieldType.int) :: wsU)) := good_V lm_X0_52 li_X2_gainOf lv_X2_gainOf ln_X2 lc_X2_gainOf
theorem gv_X0_55 : GoodIn wsU (wsV RX0 55 RX2 yX2_toWin (.code yX2_toWin cX2_toWin 2 (Option.some FieldType.int) :: wsU)) := good_V lm_X0_55 li_X2_toWin lv_X2_toWin ln_X2 lc_X2_toWin
theorem gv_X0_58 : GoodIn wsU (wsV RX0 58 RX8 yX8_timeAt (.code yX8_timeAt cX8_timeAt 7 (Option.some FieldType.int) :: wsU)) := good_V lm_X0_58 li_X8_timeAt lv_X8_timeAt ln_X8 lc_X8_timeAt
theorem gv_X0_29 : GoodIn wsU (wsV RX0 29 RX0 yX0_findDelay (.code yX0_findDelay cX0_findDelay 7 (Option.some FieldType.int) :: wsU)) := good_V lm_X0_29 li_X0_findDelay lv_X0_findDelay ln_X0 lc_X0_findDelay
theorem gv_X0_33 : GoodIn wsU (wsV RX0 33 RX0 yX0_leastOther (.code yX0_leastOther cX0_leastOther 6 (Option.some FieldType.int) :: wsU)) := good_V lm_X0_33 li_X0_leastOther lv_X0_leastOther ln_X0 lc_X0_leastOther
theorem gv_L_99 : GoodIn wsU (wsV RL 99 RX9 yX9_bestAnswer (.code yX9_bestAnswer cX9_bestAnswer 2 (Option.some FieldType.int) :: wsU)) := good_V lm_L_99 li_X9_bestAnswer lv_X9_bestAnswer ln_X9 lc_X9_bestAnswer
theorem gv_X9_107 : GoodIn wsU (wsV RX9 107 RX2 yX2_allows (.code yX2_allows cX2_allows 3 (Option.some FieldType.boolean) :: wsU)) := good_V lm_X9_107 li_X2_allows lv_X2_allows ln_X2 lc_X2_allows
theorem gv_X2_64 : GoodIn wsU (wsV RX2 64 RX2 yX2_isOver (.code yX2_isOver cX2_isOver 1 (Option.some FieldType.boolean) :: wsU)) := good_V lm_X2_64 li_X2_isOver lv_X2_isOver ln_X2 lc_X2_isOver
theorem gv_X2_68 : GoodIn wsU (wsV RX2 68 RX2 yX2_mostOf (.code yX2_mostOf cX2_mostOf 2 (Option.some FieldType.int) :: wsU)) := good_V lm_X2_68 li_X2_mostOf lv_X2_mostOf ln_X2 lc_X2_mostOf
theorem gv_X9_127 : GoodIn wsU (wsV RX9 127 RX0 yX0_findAnswer (.code yX0_findAnswer cX0_findAnswer 11 (Option.some FieldType.int) :: wsU)) := good_V lm_X9_127 li_X0_findAnswer lv_X0_findAnswer ln_X0 lc_X0_findAnswer
theorem gv_L_81 : GoodIn wsU (wsV RL 81 RX9 yX9_keeps (.code yX9_keeps cX9_keeps 1 (Option.some FieldType.int) :: wsU)) := good_V lm_L_81 li_X9_keeps lv_X9_keeps ln_X9 lc_X9_keeps
theorem gv_X9_187 : GoodIn wsU (wsV RX9 187 RX0 yX0_countKeeping (.code yX0_countKeeping cX0_countKeeping 5 (Option.some FieldType.int) :: wsU)) := good_V lm_X9_187 li_X0_countKeeping lv_X0_countKeeping ln_X0 lc_X0_countKeeping
theorem gv_L_53 : GoodIn wsU (wsV RL 53 RX9 yX9_leastHours (.code yX9_leastHours cX9_leastHours 3 (Option.some FieldType.int) :: wsU)) := good_V lm_L_53 li_X9_leastHours lv_X9_leastHours ln_X9 lc_X9_leastHours
theorem gs_L_88 : GoodIn wsU (wsS RL 88 yL_cell (.code yL_cell cL_cell 2 (Option.some FieldType.int) :: wsU)) := good_S lm_L_88 ls_L_cell ln_L lc_L_cell
theorem gs_L_92 : GoodIn wsU (wsS RL 92 yL_isStep (.code yL_isStep cL_isStep 9 (Option.some FieldType.boolean) :: wsU)) := good_S lm_L_92 ls_L_isStep ln_L lc_L_isStep
theorem gs_L_17 : GoodIn wsU (wsS RL 17 yL_up (.code yL_up cL_up 2 (Option.some FieldType.int) :: wsU)) := good_S lm_L_17 ls_L_up ln_L lc_L_up
theorem gv_L_27 : GoodIn wsU (wsV RL 27 RX9 yX9_set (.code yX9_set cX9_set 4 (Option.some FieldType.int) :: wsU)) := good_V lm_L_27 li_X9_set lv_X9_set ln_X9 lc_X9_set
theorem gs_X9_67 : GoodIn wsU (wsS RX9 67 yX9_leastSetting (.code yX9_leastSetting cX9_leastSetting 1 (Option.some FieldType.int) :: wsU)) := good_S lm_X9_67 ls_X9_leastSetting ln_X9 lc_X9_leastSetting
theorem gs_X9_71 : GoodIn wsU (wsS RX9 71 yX9_mostSetting (.code yX9_mostSetting cX9_mostSetting 1 (Option.some FieldType.int) :: wsU)) := good_S lm_X9_71 ls_X9_mostSetting ln_X9 lc_X9_mostSetting
theorem gv_X9_77 : GoodIn wsU (wsV RX9 77 RX3 yX3_keepState (.code yX3_keepState cX3_keepState 2 (Option.none : Option FieldType) :: wsU)) := good_V lm_X9_77 li_X3_keepState lv_X3_keepState ln_X3 lc_X3_keepState
theorem gv_X3_21 : GoodIn wsU (wsV RX3 21 RX3 yX3_dropOldest (.code yX3_dropOldest cX3_dropOldest 3 (Option.none : Option FieldType) :: wsU)) := good_V lm_X3_21 li_X3_dropOldest lv_X3_dropOldest ln_X3 lc_X3_dropOldest
theorem gv_X3_25 : GoodIn wsU (wsV RX3 25 RX2 yX2_copyFrom (.code yX2_copyFrom cX2_copyFrom 2 (Option.none : Option FieldType) :: wsU)) := good_V lm_X3_25 li_X2_copyFrom lv_X2_copyFrom ln_X2 lc_X2_copyFrom
theorem gv_X2_46 : GoodIn wsU (wsV RX2 46 RX6 yX6_copyFrom (.code yX6_copyFrom cX6_copyFrom 2 (Option.none : Option FieldType) :: wsU)) := good_V lm_X2_46 li_X6_copyFrom lv_X6_copyFrom ln_X6 lc_X6_copyFrom
theorem gv_X9_80 : GoodIn wsU (wsV RX9 80 RX2 yX2_changeSetting (.code yX2_changeSetting cX2_changeSetting 3 (Option.none : Option FieldType) :: wsU)) := good_V lm_X9_80 li_X2_changeSetting lv_X2_changeSetting ln_X2 lc_X2_changeSetting
theorem gv_X9_84 : GoodIn wsU (wsV RX9 84 RX2 yX2_startAnew (.code yX2_startAnew cX2_startAnew 1 (Option.none : Option FieldType) :: wsU)) := good_V lm_X9_84 li_X2_startAnew lv_X2_startAnew ln_X2 lc_X2_startAnew
theorem gv_X2_50 : GoodIn wsU (wsV RX2 50 RX6 yX6_startAnew (.code yX6_startAnew cX6_startAnew 1 (Option.none : Option FieldType) :: wsU)) := good_V lm_X2_50 li_X6_startAnew lv_X6_startAnew ln_X6 lc_X6_startAnew
theorem gs_L_30 : GoodIn wsU (wsS RL 30 yL_isNew (.code yL_isNew cL_isNew 3 (Option.some FieldType.boolean) :: wsU)) := good_S lm_L_30 ls_L_isNew ln_L lc_L_isNew
theorem gv_L_34 : GoodIn wsU (wsV RL 34 RX9 yX9_begin (.code yX9_begin cX9_begin 4 (Option.some FieldType.int) :: wsU)) := good_V lm_L_34 li_X9_begin lv_X9_begin ln_X9 lc_X9_begin
theorem gv_L_40 : GoodIn wsU (wsV RL 40 RX9 yX9_play (.code yX9_play cX9_play 4 (Option.some FieldType.int) :: wsU)) := good_V lm_L_40 li_X9_play lv_X9_play ln_X9 lc_X9_play
theorem gv_X9_111 : GoodIn wsU (wsV RX9 111 RX2 yX2_playRound (.code yX2_playRound cX2_playRound 7 (Option.some FieldType.int) :: wsU)) := good_V lm_X9_111 li_X2_playRound lv_X2_playRound ln_X2 lc_X2_playRound
theorem gv_X2_72 : GoodIn wsU (wsV RX2 72 RX2 yX2_takerOf (.code yX2_takerOf cX2_takerOf 4 (Option.some FieldType.int) :: wsU)) := good_V lm_X2_72 li_X2_takerOf lv_X2_takerOf ln_X2 lc_X2_takerOf
theorem gv_X2_82 : GoodIn wsU (wsV RX2 82 RX2 yX2_gainOf (.code yX2_gainOf cX2_gainOf 2 (Option.some FieldType.int) :: wsU)) := good_V lm_X2_82 li_X2_gainOf lv_X2_gainOf ln_X2 lc_X2_gainOf
theorem gv_L_44 : GoodIn wsU (wsV RL 44 RX9 yX9_save (.code yX9_save cX9_save 3 (Option.some FieldType.int) :: wsU)) := good_V lm_L_44 li_X9_save lv_X9_save ln_X9 lc_X9_save
theorem gs_X9_204 : GoodIn wsU (wsS RX9 204 yX9_isSlot (.code yX9_isSlot cX9_isSlot 1 (Option.some FieldType.boolean) :: wsU)) := good_S lm_X9_204 ls_X9_isSlot ln_X9 lc_X9_isSlot
theorem gv_X9_207 : GoodIn wsU (wsV RX9 207 RX9 yX9_slotOf (.code yX9_slotOf cX9_slotOf 2 (Option.some (FieldType.object "BorrowedHours$Slot")) :: wsU)) := good_V lm_X9_207 li_X9_slotOf lv_X9_slotOf ln_X9 lc_X9_slotOf
theorem gv_X9_214 : GoodIn wsU (wsV RX9 214 RX2 yX2_copyFrom (.code yX2_copyFrom cX2_copyFrom 2 (Option.none : Option FieldType) :: wsU)) := good_V lm_X9_214 li_X2_copyFrom lv_X2_copyFrom ln_X2 lc_X2_copyFrom
theorem gv_L_47 : GoodIn wsU (wsV RL 47 RX9 yX9_restore (.code yX9_restore cX9_restore 3 (Option.some FieldType.int) :: wsU)) := good_V lm_L_47 li_X9_restore lv_X9_restore ln_X9 lc_X9_restore
theorem gv_L_50 : GoodIn wsU (wsV RL 50 RX9 yX9_undo (.code yX9_undo cX9_undo 1 (Option.some FieldType.int) :: wsU)) := good_V lm_L_50 li_X9_undo lv_X9_undo ln_X9 lc_X9_undo
theorem gv_X9_201 : GoodIn wsU (wsV RX9 201 RX3 yX3_takeBack (.code yX3_takeBack cX3_takeBack 3 (Option.none : Option FieldType) :: wsU)) := good_V lm_X9_201 li_X3_takeBack lv_X3_takeBack ln_X3 lc_X3_takeBack
theorem gv_L_56 : GoodIn wsU (wsV RL 56 RX9 yX9_round (.code yX9_round cX9_round 3 (Option.some FieldType.int) :: wsU)) := good_V lm_L_56 li_X9_round lv_X9_round ln_X9 lc_X9_round
theorem gs_L_59 : GoodIn wsU (wsS RL 59 yL_isRound (.code yL_isRound cL_isRound 17 (Option.some FieldType.boolean) :: wsU)) := good_S lm_L_59 ls_L_isRound ln_L lc_L_isRound
theorem gv_L_63 : GoodIn wsU (wsV RL 63 RX9 yX9_wipe (.code yX9_wipe cX9_wipe 2 (Option.some FieldType.int) :: wsU)) := good_V lm_L_63 li_X9_wipe lv_X9_wipe ln_X9 lc_X9_wipe
theorem gv_X9_138 : GoodIn wsU (wsV RX9 138 RX5 yX5_clear (.code yX5_clear cX5_clear 1 (Option.none : Option FieldType) :: wsU)) := good_V lm_X9_138 li_X5_clear lv_X5_clear ln_X5 lc_X5_clear
theorem gs_L_66 : GoodIn wsU (wsS RL 66 yL_number (.code yL_number cL_number 2 (Option.some FieldType.boolean) :: wsU)) := good_S lm_L_66 ls_L_number ln_L lc_L_number
theorem gv_L_11 : GoodIn wsU (wsV RL 11 RX9 yX9_put (.code yX9_put cX9_put 4 (Option.some FieldType.int) :: wsU)) := good_V lm_L_11 li_X9_put lv_X9_put ln_X9 lc_X9_put
theorem gs_X9_193 : GoodIn wsU (wsS RX9 193 yX5_countSigns (.code yX5_countSigns cX5_countSigns 6 (Option.some FieldType.int) :: wsU)) := good_S lm_X9_193 ls_X5_countSigns ln_X9 lc_X5_countSigns
theorem gv_X9_197 : GoodIn wsU (wsV RX9 197 RX5 yX5_append (.code yX5_append cX5_append 5 (Option.none : Option FieldType) :: wsU)) := good_V lm_X9_197 li_X5_append lv_X5_append ln_X5 lc_X5_append
theorem gv_L_72 : GoodIn wsU (wsV RL 72 RX9 yX9_run (.code yX9_run cX9_run 2 (Option.some FieldType.int) :: wsU)) := good_V lm_L_72 li_X9_run lv_X9_run ln_X9 lc_X9_run
theorem gv_X9_131 : GoodIn wsU (wsV RX9 131 RX5 yX5_firstFault (.code yX5_firstFault cX5_firstFault 5 (Option.some FieldType.int) :: wsU)) := good_V lm_X9_131 li_X5_firstFault lv_X5_firstFault ln_X5 lc_X5_firstFault
theorem gv_X5_21 : GoodIn wsU (wsV RX5 21 RX5 yX5_signAt (.code yX5_signAt cX5_signAt 2 (Option.some FieldType.int) :: wsU)) := good_V lm_X5_21 li_X5_signAt lv_X5_signAt ln_X5 lc_X5_signAt
theorem gs_X5_25 : GoodIn wsU (wsS RX5 25 yX5_canStandAsDigit (.code yX5_canStandAsDigit cX5_canStandAsDigit 2 (Option.some FieldType.boolean) :: wsU)) := good_S lm_X5_25 ls_X5_canStandAsDigit ln_X5 lc_X5_canStandAsDigit
theorem gv_X9_135 : GoodIn wsU (wsV RX9 135 RX9 yX9_playPad (.code yX9_playPad cX9_playPad 6 (Option.some FieldType.int) :: wsU)) := good_V lm_X9_135 li_X9_playPad lv_X9_playPad ln_X9 lc_X9_playPad
theorem gv_X9_234 : GoodIn wsU (wsV RX9 234 RX5 yX5_signAt (.code yX5_signAt cX5_signAt 2 (Option.some FieldType.int) :: wsU)) := good_V lm_X9_234 li_X5_signAt lv_X5_signAt ln_X5 lc_X5_signAt
theorem gs_L_96 : GoodIn wsU (wsS RL 96 yL_isWell (.code yL_isWell cL_isWell 7 (Option.some FieldType.boolean) :: wsU)) := good_S lm_L_96 ls_L_isWell ln_L lc_L_isWell
theorem gv_L_75 : GoodIn wsU (wsV RL 75 RX9 yX9_forced (.code yX9_forced cX9_forced 3 (Option.some FieldType.int) :: wsU)) := good_V lm_L_75 li_X9_forced lv_X9_forced ln_X9 lc_X9_forced
theorem gv_L_78 : GoodIn wsU (wsV RL 78 RX9 yX9_ahead (.code yX9_ahead cX9_ahead 3 (Option.some FieldType.int) :: wsU)) := good_V lm_L_78 li_X9_ahead lv_X9_ahead ln_X9 lc_X9_ahead
theorem gv_X9_184 : GoodIn wsU (wsV RX9 184 RX1 yX1_seesWinOf (.code yX1_seesWinOf cX1_seesWinOf 5 (Option.some FieldType.boolean) :: wsU)) := good_V lm_X9_184 li_X1_seesWinOf lv_X1_seesWinOf ln_X1 lc_X1_seesWinOf
theorem gv_X1_15 : GoodIn wsU (wsV RX1 15 RX2 yX2_mostOf (.code yX2_mostOf cX2_mostOf 2 (Option.some FieldType.int) :: wsU)) := good_V lm_X1_15 li_X2_mostOf lv_X2_mostOf ln_X2 lc_X2_mostOf
theorem gv_X1_27 : GoodIn wsU (wsV RX1 27 RX2 yX2_toWin (.code yX2_toWin cX2_toWin 2 (Option.some FieldType.int) :: wsU)) := good_V lm_X1_27 li_X2_toWin lv_X2_toWin ln_X2 lc_X2_toWin
theorem gv_X1_34 : GoodIn wsU (wsV RX1 34 RX1 yX1_seesWin (.code yX1_seesWin cX1_seesWin 6 (Option.some FieldType.boolean) :: wsU)) := good_V lm_X1_34 li_X1_seesWin lv_X1_seesWin ln_X1 lc_X1_seesWin
theorem gv_X1_41 : GoodIn wsU (wsV RX1 41 RX1 yX1_seesBid (.code yX1_seesBid cX1_seesBid 6 (Option.some FieldType.boolean) :: wsU)) := good_V lm_X1_41 li_X1_seesBid lv_X1_seesBid ln_X1 lc_X1_seesBid
theorem gv_X1_48 : GoodIn wsU (wsV RX1 48 RX1 yX1_standsAllAnswers (.code yX1_standsAllAnswers cX1_standsAllAnswers 7 (Option.some FieldType.boolean) :: wsU)) := good_V lm_X1_48 li_X1_standsAllAnswers lv_X1_standsAllAnswers ln_X1 lc_X1_standsAllAnswers
theorem gv_X1_52 : GoodIn wsU (wsV RX1 52 RX1 yX1_canTake (.code yX1_canTake cX1_canTake 2 (Option.some FieldType.boolean) :: wsU)) := good_V lm_X1_52 li_X1_canTake lv_X1_canTake ln_X1 lc_X1_canTake
theorem gv_X1_56 : GoodIn wsU (wsV RX1 56 RX1 yX1_seesTaken (.code yX1_seesTaken cX1_seesTaken 7 (Option.some FieldType.boolean) :: wsU)) := good_V lm_X1_56 li_X1_seesTaken lv_X1_seesTaken ln_X1 lc_X1_seesTaken
theorem gv_X1_72 : GoodIn wsU (wsV RX1 72 RX2 yX2_gainOf (.code yX2_gainOf cX2_gainOf 2 (Option.some FieldType.int) :: wsU)) := good_V lm_X1_72 li_X2_gainOf lv_X2_gainOf ln_X2 lc_X2_gainOf
theorem gv_X1_60 : GoodIn wsU (wsV RX1 60 RX1 yX1_leastTaking (.code yX1_leastTaking cX1_leastTaking 2 (Option.some FieldType.int) :: wsU)) := good_V lm_X1_60 li_X1_leastTaking lv_X1_leastTaking ln_X1 lc_X1_leastTaking
theorem gv_X1_63 : GoodIn wsU (wsV RX1 63 RX1 yX1_seesLost (.code yX1_seesLost cX1_seesLost 7 (Option.some FieldType.boolean) :: wsU)) := good_V lm_X1_63 li_X1_seesLost lv_X1_seesLost ln_X1 lc_X1_seesLost
theorem gv_X1_45 : GoodIn wsU (wsV RX1 45 RX1 yX1_seesAnswers (.code yX1_seesAnswers cX1_seesAnswers 6 (Option.some FieldType.boolean) :: wsU)) := good_V lm_X1_45 li_X1_seesAnswers lv_X1_seesAnswers ln_X1 lc_X1_seesAnswers
theorem gv_X1_66 : GoodIn wsU (wsV RX1 66 RX1 yX1_hasAnswer (.code yX1_hasAnswer cX1_hasAnswer 7 (Option.some FieldType.boolean) :: wsU)) := good_V lm_X1_66 li_X1_hasAnswer lv_X1_hasAnswer ln_X1 lc_X1_hasAnswer
theorem yv_X9_init : yX9_init.name = "<init>" ∧ yX9_init.cls ≠ "java/lang/invoke/MethodHandle" ∧ yX9_init.cls ≠ "java/lang/invoke/VarHandle" ∧ (parseMethodDescriptor yX9_init.desc).map (fun d => d.parameters.length) = some 0 := by decide +kernel
theorem yv_X2_init : yX2_init.name = "<init>" ∧ yX2_init.cls ≠ "java/lang/invoke/MethodHandle" ∧ yX2_init.cls ≠ "java/lang/invoke/VarHandle" ∧ (parseMethodDescriptor yX2_init.desc).map (fun d => d.parameters.length) = some 0 := by decide +kernel
theorem yv_X6_init : yX6_init.name = "<init>" ∧ yX6_init.cls ≠ "java/lang/invoke/MethodHandle" ∧ yX6_init.cls ≠ "java/lang/invoke/VarHandle" ∧ (parseMethodDescriptor yX6_init.desc).map (fun d => d.parameters.length) = some 0 := by decide +kernel
theorem yv_X3_init : yX3_init.name = "<init>" ∧ yX3_init.cls ≠ "java/lang/invoke/MethodHandle" ∧ yX3_init.cls ≠ "java/lang/invoke/VarHandle" ∧ (parseMethodDescriptor yX3_init.desc).map (fun d => d.parameters.length) = some 0 := by decide +kernel
theorem yv_X7_init : yX7_init.name = "<init>" ∧ yX7_init.cls ≠ "java/lang/invoke/MethodHandle" ∧ yX7_init.cls ≠ "java/lang/invoke/VarHandle" ∧ (parseMethodDescriptor yX7_init.desc).map (fun d => d.parameters.length) = some 0 := by decide +kernel
theorem yv_X5_init : yX5_init.name = "<init>" ∧ yX5_init.cls ≠ "java/lang/invoke/MethodHandle" ∧ yX5_init.cls ≠ "java/lang/invoke/VarHandle" ∧ (parseMethodDescriptor yX5_init.desc).map (fun d => d.parameters.length) = some 0 := by decide +kernel
theorem yv_X4_init : yX4_init.name = "<init>" ∧ yX4_init.cls ≠ "java/lang/invoke/MethodHandle" ∧ yX4_init.cls ≠ "java/lang/invoke/VarHandle" ∧ (parseMethodDescriptor yX4_init.desc).map (fun d => d.parameters.length) = some 0 := by decide +kernel
theorem yv_X0_init : yX0_init.name = "<init>" ∧ yX0_init.cls ≠ "java/lang/invoke/MethodHandle" ∧ yX0_init.cls ≠ "java/lang/invoke/VarHandle" ∧ (parseMethodDescriptor yX0_init.desc).map (fun d => d.parameters.length) = some 1 := by decide +kernel
theorem yv_X1_init : yX1_init.name = "<init>" ∧ yX1_init.cls ≠ "java/lang/invoke/MethodHandle" ∧ yX1_init.cls ≠ "java/lang/invoke/VarHandle" ∧ (parseMethodDescriptor yX1_init.desc).map (fun d => d.parameters.length) = some 1 := by decide +kernel
theorem yv_X9_player : yX9_player.cls = RX9 ∧ yX9_player.cls ≠ "java/lang/invoke/MethodHandle" ∧ yX9_player.cls ≠ "java/lang/invoke/VarHandle" ∧ (parseMethodDescriptor yX9_player.desc).map (fun d => d.parameters.length) = some 2 := by decide +kernel
theorem yv_X9_isPlayer : yX9_isPlayer.cls = RX9 ∧ yX9_isPlayer.cls ≠ "java/lang/invoke/MethodHandle" ∧ yX9_isPlayer.cls ≠ "java/lang/invoke/VarHandle" ∧ (parseMethodDescriptor yX9_isPlayer.desc).map (fun d => d.parameters.length) = some 1 := by decide +kernel
theorem yv_X2_sideOf : yX2_sideOf.cls = RX2 ∧ yX2_sideOf.cls ≠ "java/lang/invoke/MethodHandle" ∧ yX2_sideOf.cls ≠ "java/lang/invoke/VarHandle" ∧ (parseMethodDescriptor yX2_sideOf.desc).map (fun d => d.parameters.length) = some 1 := by decide +kernel
theorem yv_X2_mostOf : yX2_mostOf.cls = RX2 ∧ yX2_mostOf.cls ≠ "java/lang/invoke/MethodHandle" ∧ yX2_mostOf.cls ≠ "java/lang/invoke/VarHandle" ∧ (parseMethodDescriptor yX2_mostOf.desc).map (fun d => d.parameters.length) = some 1 := by decide +kernel
theorem yv_X9_timeWith : yX9_timeWith.cls = RX9 ∧ yX9_timeWith.cls ≠ "java/lang/invoke/MethodHandle" ∧ yX9_timeWith.cls ≠ "java/lang/invoke/VarHandle" ∧ (parseMethodDescriptor yX9_timeWith.desc).map (fun d => d.parameters.length) = some 2 := by decide +kernel
theorem yv_X4_tableFor : yX4_tableFor.cls = RX4 ∧ yX4_tableFor.cls ≠ "java/lang/invoke/MethodHandle" ∧ yX4_tableFor.cls ≠ "java/lang/invoke/VarHandle" ∧ (parseMethodDescriptor yX4_tableFor.desc).map (fun d => d.parameters.length) = some 2 := by decide +kernel
theorem yv_X8_init : yX8_init.name = "<init>" ∧ yX8_init.cls ≠ "java/lang/invoke/MethodHandle" ∧ yX8_init.cls ≠ "java/lang/invoke/VarHandle" ∧ (parseMethodDescriptor yX8_init.desc).map (fun d => d.parameters.length) = some 4 := by decide +kernel
theorem yv_X8_learnAll : yX8_learnAll.cls = RX8 ∧ yX8_learnAll.cls ≠ "java/lang/invoke/MethodHandle" ∧ yX8_learnAll.cls ≠ "java/lang/invoke/VarHandle" ∧ (parseMethodDescriptor yX8_learnAll.desc).map (fun d => d.parameters.length) = some 0 := by decide +kernel
theorem yv_X8_learnRounds : yX8_learnRounds.cls = RX8 ∧ yX8_learnRounds.cls ≠ "java/lang/invoke/MethodHandle" ∧ yX8_learnRounds.cls ≠ "java/lang/invoke/VarHandle" ∧ (parseMethodDescriptor yX8_learnRounds.desc).map (fun d => d.parameters.length) = some 1 := by decide +kernel
theorem yv_X8_bidForces : yX8_bidForces.cls = RX8 ∧ yX8_bidForces.cls ≠ "java/lang/invoke/MethodHandle" ∧ yX8_bidForces.cls ≠ "java/lang/invoke/VarHandle" ∧ (parseMethodDescriptor yX8_bidForces.desc).map (fun d => d.parameters.length) = some 4 := by decide +kernel
theorem yv_X8_lost : yX8_lost.cls = RX8 ∧ yX8_lost.cls ≠ "java/lang/invoke/MethodHandle" ∧ yX8_lost.cls ≠ "java/lang/invoke/VarHandle" ∧ (parseMethodDescriptor yX8_lost.desc).map (fun d => d.parameters.length) = some 6 := by decide +kernel
theorem yv_X8_timeAt : yX8_timeAt.cls = RX8 ∧ yX8_timeAt.cls ≠ "java/lang/invoke/MethodHandle" ∧ yX8_timeAt.cls ≠ "java/lang/invoke/VarHandle" ∧ (parseMethodDescriptor yX8_timeAt.desc).map (fun d => d.parameters.length) = some 4 := by decide +kernel
theorem yv_X8_neverTakes : yX8_neverTakes.cls = RX8 ∧ yX8_neverTakes.cls ≠ "java/lang/invoke/MethodHandle" ∧ yX8_neverTakes.cls ≠ "java/lang/invoke/VarHandle" ∧ (parseMethodDescriptor yX8_neverTakes.desc).map (fun d => d.parameters.length) = some 1 := by decide +kernel
theorem yv_X8_taken : yX8_taken.cls = RX8 ∧ yX8_taken.cls ≠ "java/lang/invoke/MethodHandle" ∧ yX8_taken.cls ≠ "java/lang/invoke/VarHandle" ∧ (parseMethodDescriptor yX8_taken.desc).map (fun d => d.parameters.length) = some 6 := by decide +kernel
theorem yv_X8_answerForces : yX8_answerForces.cls = RX8 ∧ yX8_answerForces.cls ≠ "java/lang/invoke/MethodHandle" ∧ yX8_answerForces.cls ≠ "java/lang/invoke/VarHandle" ∧ (parseMethodDescriptor yX8_answerForces.desc).map (fun d => d.parameters.length) = some 4 := by decide +kernel
theorem yv_X2_toWin : yX2_toWin.cls = RX2 ∧ yX2_toWin.cls ≠ "java/lang/invoke/MethodHandle" ∧ yX2_toWin.cls ≠ "java/lang/invoke/VarHandle" ∧ (parseMethodDescriptor yX2_toWin.desc).map (fun d => d.parameters.length) = some 1 := by decide +kernel
theorem yv_X9_count : yX9_count.cls = RX9 ∧ yX9_count.cls ≠ "java/lang/invoke/MethodHandle" ∧ yX9_count.cls ≠ "java/lang/invoke/VarHandle" ∧ (parseMethodDescriptor yX9_count.desc).map (fun d => d.parameters.length) = some 1 := by decide +kernel
theorem yv_X9_isSetting : yX9_isSetting.cls = RX9 ∧ yX9_isSetting.cls ≠ "java/lang/invoke/MethodHandle" ∧ yX9_isSetting.cls ≠ "java/lang/invoke/VarHandle" ∧ (parseMethodDescriptor yX9_isSetting.desc).map (fun d => d.parameters.length) = some 1 := by decide +kernel
theorem yv_X9_isBetween : yX9_isBetween.cls = RX9 ∧ yX9_isBetween.cls ≠ "java/lang/invoke/MethodHandle" ∧ yX9_isBetween.cls ≠ "java/lang/invoke/VarHandle" ∧ (parseMethodDescriptor yX9_isBetween.desc).map (fun d => d.parameters.length) = some 3 := by decide +kernel
theorem yv_X2_settingOf : yX2_settingOf.cls = RX2 ∧ yX2_settingOf.cls ≠ "java/lang/invoke/MethodHandle" ∧ yX2_settingOf.cls ≠ "java/lang/invoke/VarHandle" ∧ (parseMethodDescriptor yX2_settingOf.desc).map (fun d => d.parameters.length) = some 1 := by decide +kernel
theorem yv_X2_isOver : yX2_isOver.cls = RX2 ∧ yX2_isOver.cls ≠ "java/lang/invoke/MethodHandle" ∧ yX2_isOver.cls ≠ "java/lang/invoke/VarHandle" ∧ (parseMethodDescriptor yX2_isOver.desc).map (fun d => d.parameters.length) = some 0 := by decide +kernel
theorem yv_X2_winner : yX2_winner.cls = RX2 ∧ yX2_winner.cls ≠ "java/lang/invoke/MethodHandle" ∧ yX2_winner.cls ≠ "java/lang/invoke/VarHandle" ∧ (parseMethodDescriptor yX2_winner.desc).map (fun d => d.parameters.length) = some 0 := by decide +kernel
theorem yv_X9_bestBid : yX9_bestBid.cls = RX9 ∧ yX9_bestBid.cls ≠ "java/lang/invoke/MethodHandle" ∧ yX9_bestBid.cls ≠ "java/lang/invoke/VarHandle" ∧ (parseMethodDescriptor yX9_bestBid.desc).map (fun d => d.parameters.length) = some 0 := by decide +kernel
theorem yv_X9_timesNow : yX9_timesNow.cls = RX9 ∧ yX9_timesNow.cls ≠ "java/lang/invoke/MethodHandle" ∧ yX9_timesNow.cls ≠ "java/lang/invoke/VarHandle" ∧ (parseMethodDescriptor yX9_timesNow.desc).map (fun d => d.parameters.length) = some 0 := by decide +kernel
theorem yv_X0_findBid : yX0_findBid.cls = RX0 ∧ yX0_findBid.cls ≠ "java/lang/invoke/MethodHandle" ∧ yX0_findBid.cls ≠ "java/lang/invoke/VarHandle" ∧ (parseMethodDescriptor yX0_findBid.desc).map (fun d => d.parameters.length) = some 1 := by decide +kernel
theorem yv_X0_longestOwn : yX0_longestOwn.cls = RX0 ∧ yX0_longestOwn.cls ≠ "java/lang/invoke/MethodHandle" ∧ yX0_longestOwn.cls ≠ "java/lang/invoke/VarHandle" ∧ (parseMethodDescriptor yX0_longestOwn.desc).map (fun d => d.parameters.length) = some 2 := by decide +kernel
theorem yv_X0_timeBehind : yX0_timeBehind.cls = RX0 ∧ yX0_timeBehind.cls ≠ "java/lang/invoke/MethodHandle" ∧ yX0_timeBehind.cls ≠ "java/lang/invoke/VarHandle" ∧ (parseMethodDescriptor yX0_timeBehind.desc).map (fun d => d.parameters.length) = some 4 := by decide +kernel
theorem yv_X2_takerOf : yX2_takerOf.cls = RX2 ∧ yX2_takerOf.cls ≠ "java/lang/invoke/MethodHandle" ∧ yX2_takerOf.cls ≠ "java/lang/invoke/VarHandle" ∧ (parseMethodDescriptor yX2_takerOf.desc).map (fun d => d.parameters.length) = some 2 := by decide +kernel
theorem yv_X2_gainOf : yX2_gainOf.cls = RX2 ∧ yX2_gainOf.cls ≠ "java/lang/invoke/MethodHandle" ∧ yX2_gainOf.cls ≠ "java/lang/invoke/VarHandle" ∧ (parseMethodDescriptor yX2_gainOf.desc).map (fun d => d.parameters.length) = some 1 := by decide +kernel
theorem yv_X0_findDelay : yX0_findDelay.cls = RX0 ∧ yX0_findDelay.cls ≠ "java/lang/invoke/MethodHandle" ∧ yX0_findDelay.cls ≠ "java/lang/invoke/VarHandle" ∧ (parseMethodDescriptor yX0_findDelay.desc).map (fun d => d.parameters.length) = some 1 := by decide +kernel
theorem yv_X0_leastOther : yX0_leastOther.cls = RX0 ∧ yX0_leastOther.cls ≠ "java/lang/invoke/MethodHandle" ∧ yX0_leastOther.cls ≠ "java/lang/invoke/VarHandle" ∧ (parseMethodDescriptor yX0_leastOther.desc).map (fun d => d.parameters.length) = some 2 := by decide +kernel
theorem yv_X9_bestAnswer : yX9_bestAnswer.cls = RX9 ∧ yX9_bestAnswer.cls ≠ "java/lang/invoke/MethodHandle" ∧ yX9_bestAnswer.cls ≠ "java/lang/invoke/VarHandle" ∧ (parseMethodDescriptor yX9_bestAnswer.desc).map (fun d => d.parameters.length) = some 1 := by decide +kernel
theorem yv_X2_allows : yX2_allows.cls = RX2 ∧ yX2_allows.cls ≠ "java/lang/invoke/MethodHandle" ∧ yX2_allows.cls ≠ "java/lang/invoke/VarHandle" ∧ (parseMethodDescriptor yX2_allows.desc).map (fun d => d.parameters.length) = some 2 := by decide +kernel
theorem yv_X0_findAnswer : yX0_findAnswer.cls = RX0 ∧ yX0_findAnswer.cls ≠ "java/lang/invoke/MethodHandle" ∧ yX0_findAnswer.cls ≠ "java/lang/invoke/VarHandle" ∧ (parseMethodDescriptor yX0_findAnswer.desc).map (fun d => d.parameters.length) = some 2 := by decide +kernel
theorem yv_X9_keeps : yX9_keeps.cls = RX9 ∧ yX9_keeps.cls ≠ "java/lang/invoke/MethodHandle" ∧ yX9_keeps.cls ≠ "java/lang/invoke/VarHandle" ∧ (parseMethodDescriptor yX9_keeps.desc).map (fun d => d.parameters.length) = some 0 := by decide +kernel
theorem yv_X0_countKeeping : yX0_countKeeping.cls = RX0 ∧ yX0_countKeeping.cls ≠ "java/lang/invoke/MethodHandle" ∧ yX0_countKeeping.cls ≠ "java/lang/invoke/VarHandle" ∧ (parseMethodDescriptor yX0_countKeeping.desc).map (fun d => d.parameters.length) = some 1 := by decide +kernel
theorem yv_X9_leastHours : yX9_leastHours.cls = RX9 ∧ yX9_leastHours.cls ≠ "java/lang/invoke/MethodHandle" ∧ yX9_leastHours.cls ≠ "java/lang/invoke/VarHandle" ∧ (parseMethodDescriptor yX9_leastHours.desc).map (fun d => d.parameters.length) = some 1 := by decide +kernel
theorem yv_L_cell : yL_cell.cls = RL ∧ yL_cell.cls ≠ "java/lang/invoke/MethodHandle" ∧ yL_cell.cls ≠ "java/lang/invoke/VarHandle" ∧ (parseMethodDescriptor yL_cell.desc).map (fun d => d.parameters.length) = some 2 := by decide +kernel
theorem yv_L_isStep : yL_isStep.cls = RL ∧ yL_isStep.cls ≠ "java/lang/invoke/MethodHandle" ∧ yL_isStep.cls ≠ "java/lang/invoke/VarHandle" ∧ (parseMethodDescriptor yL_isStep.desc).map (fun d => d.parameters.length) = some 4 := by decide +kernel
theorem yv_L_up : yL_up.cls = RL ∧ yL_up.cls ≠ "java/lang/invoke/MethodHandle" ∧ yL_up.cls ≠ "java/lang/invoke/VarHandle" ∧ (parseMethodDescriptor yL_up.desc).map (fun d => d.parameters.length) = some 2 := by decide +kernel
theorem yv_X9_set : yX9_set.cls = RX9 ∧ yX9_set.cls ≠ "java/lang/invoke/MethodHandle" ∧ yX9_set.cls ≠ "java/lang/invoke/VarHandle" ∧ (parseMethodDescriptor yX9_set.desc).map (fun d => d.parameters.length) = some 2 := by decide +kernel
theorem yv_X9_leastSetting : yX9_leastSetting.cls = RX9 ∧ yX9_leastSetting.cls ≠ "java/lang/invoke/MethodHandle" ∧ yX9_leastSetting.cls ≠ "java/lang/invoke/VarHandle" ∧ (parseMethodDescriptor yX9_leastSetting.desc).map (fun d => d.parameters.length) = some 1 := by decide +kernel
theorem yv_X9_mostSetting : yX9_mostSetting.cls = RX9 ∧ yX9_mostSetting.cls ≠ "java/lang/invoke/MethodHandle" ∧ yX9_mostSetting.cls ≠ "java/lang/invoke/VarHandle" ∧ (parseMethodDescriptor yX9_mostSetting.desc).map (fun d => d.parameters.length) = some 1 := by decide +kernel
theorem yv_X3_keepState : yX3_keepState.cls = RX3 ∧ yX3_keepState.cls ≠ "java/lang/invoke/MethodHandle" ∧ yX3_keepState.cls ≠ "java/lang/invoke/VarHandle" ∧ (parseMethodDescriptor yX3_keepState.desc).map (fun d => d.parameters.length) = some 1 := by decide +kernel
theorem yv_X3_dropOldest : yX3_dropOldest.cls = RX3 ∧ yX3_dropOldest.cls ≠ "java/lang/invoke/MethodHandle" ∧ yX3_dropOldest.cls ≠ "java/lang/invoke/VarHandle" ∧ (parseMethodDescriptor yX3_dropOldest.desc).map (fun d => d.parameters.length) = some 0 := by decide +kernel
theorem yv_X2_copyFrom : yX2_copyFrom.cls = RX2 ∧ yX2_copyFrom.cls ≠ "java/lang/invoke/MethodHandle" ∧ yX2_copyFrom.cls ≠ "java/lang/invoke/VarHandle" ∧ (parseMethodDescriptor yX2_copyFrom.desc).map (fun d => d.parameters.length) = some 1 := by decide +kernel
theorem yv_X6_copyFrom : yX6_copyFrom.cls = RX6 ∧ yX6_copyFrom.cls ≠ "java/lang/invoke/MethodHandle" ∧ yX6_copyFrom.cls ≠ "java/lang/invoke/VarHandle" ∧ (parseMethodDescriptor yX6_copyFrom.desc).map (fun d => d.parameters.length) = some 1 := by decide +kernel
theorem yv_X2_changeSetting : yX2_changeSetting.cls = RX2 ∧ yX2_changeSetting.cls ≠ "java/lang/invoke/MethodHandle" ∧ yX2_changeSetting.cls ≠ "java/lang/invoke/VarHandle" ∧ (parseMethodDescriptor yX2_changeSetting.desc).map (fun d => d.parameters.length) = some 2 := by decide +kernel
theorem yv_X2_startAnew : yX2_startAnew.cls = RX2 ∧ yX2_startAnew.cls ≠ "java/lang/invoke/MethodHandle" ∧ yX2_startAnew.cls ≠ "java/lang/invoke/VarHandle" ∧ (parseMethodDescriptor yX2_startAnew.desc).map (fun d => d.parameters.length) = some 0 := by decide +kernel
theorem yv_X6_startAnew : yX6_startAnew.cls = RX6 ∧ yX6_startAnew.cls ≠ "java/lang/invoke/MethodHandle" ∧ yX6_startAnew.cls ≠ "java/lang/invoke/VarHandle" ∧ (parseMethodDescriptor yX6_startAnew.desc).map (fun d => d.parameters.length) = some 0 := by decide +kernel
theorem yv_L_isNew : yL_isNew.cls = RL ∧ yL_isNew.cls ≠ "java/lang/invoke/MethodHandle" ∧ yL_isNew.cls ≠ "java/lang/invoke/VarHandle" ∧ (parseMethodDescriptor yL_isNew.desc).map (fun d => d.parameters.length) = some 1 := by decide +kernel
theorem yv_X9_begin : yX9_begin.cls = RX9 ∧ yX9_begin.cls ≠ "java/lang/invoke/MethodHandle" ∧ yX9_begin.cls ≠ "java/lang/invoke/VarHandle" ∧ (parseMethodDescriptor yX9_begin.desc).map (fun d => d.parameters.length) = some 2 := by decide +kernel
theorem yv_X9_play : yX9_play.cls = RX9 ∧ yX9_play.cls ≠ "java/lang/invoke/MethodHandle" ∧ yX9_play.cls ≠ "java/lang/invoke/VarHandle" ∧ (parseMethodDescriptor yX9_play.desc).map (fun d => d.parameters.length) = some 0 := by decide +kernel
theorem yv_X2_playRound : yX2_playRound.cls = RX2 ∧ yX2_playRound.cls ≠ "java/lang/invoke/MethodHandle" ∧ yX2_playRound.cls ≠ "java/lang/invoke/VarHandle" ∧ (parseMethodDescriptor yX2_playRound.desc).map (fun d => d.parameters.length) = some 2 := by decide +kernel
theorem yv_X9_save : yX9_save.cls = RX9 ∧ yX9_save.cls ≠ "java/lang/invoke/MethodHandle" ∧ yX9_save.cls ≠ "java/lang/invoke/VarHandle" ∧ (parseMethodDescriptor yX9_save.desc).map (fun d => d.parameters.length) = some 1 := by decide +kernel
theorem yv_X9_isSlot : yX9_isSlot.cls = RX9 ∧ yX9_isSlot.cls ≠ "java/lang/invoke/MethodHandle" ∧ yX9_isSlot.cls ≠ "java/lang/invoke/VarHandle" ∧ (parseMethodDescriptor yX9_isSlot.desc).map (fun d => d.parameters.length) = some 1 := by decide +kernel
theorem yv_X9_slotOf : yX9_slotOf.cls = RX9 ∧ yX9_slotOf.cls ≠ "java/lang/invoke/MethodHandle" ∧ yX9_slotOf.cls ≠ "java/lang/invoke/VarHandle" ∧ (parseMethodDescriptor yX9_slotOf.desc).map (fun d => d.parameters.length) = some 1 := by decide +kernel
theorem yv_X9_restore : yX9_restore.cls = RX9 ∧ yX9_restore.cls ≠ "java/lang/invoke/MethodHandle" ∧ yX9_restore.cls ≠ "java/lang/invoke/VarHandle" ∧ (parseMethodDescriptor yX9_restore.desc).map (fun d => d.parameters.length) = some 1 := by decide +kernel
theorem yv_X9_undo : yX9_undo.cls = RX9 ∧ yX9_undo.cls ≠ "java/lang/invoke/MethodHandle" ∧ yX9_undo.cls ≠ "java/lang/invoke/VarHandle" ∧ (parseMethodDescriptor yX9_undo.desc).map (fun d => d.parameters.length) = some 0 := by decide +kernel
theorem yv_X3_takeBack : yX3_takeBack.cls = RX3 ∧ yX3_takeBack.cls ≠ "java/lang/invoke/MethodHandle" ∧ yX3_takeBack.cls ≠ "java/lang/invoke/VarHandle" ∧ (parseMethodDescriptor yX3_takeBack.desc).map (fun d => d.parameters.length) = some 1 := by decide +kernel
theorem yv_X9_round : yX9_round.cls = RX9 ∧ yX9_round.cls ≠ "java/lang/invoke/MethodHandle" ∧ yX9_round.cls ≠ "java/lang/invoke/VarHandle" ∧ (parseMethodDescriptor yX9_round.desc).map (fun d => d.parameters.length) = some 2 := by decide +kernel
theorem yv_L_isRound : yL_isRound.cls = RL ∧ yL_isRound.cls ≠ "java/lang/invoke/MethodHandle" ∧ yL_isRound.cls ≠ "java/lang/invoke/VarHandle" ∧ (parseMethodDescriptor yL_isRound.desc).map (fun d => d.parameters.length) = some 4 := by decide +kernel
theorem yv_X9_wipe : yX9_wipe.cls = RX9 ∧ yX9_wipe.cls ≠ "java/lang/invoke/MethodHandle" ∧ yX9_wipe.cls ≠ "java/lang/invoke/VarHandle" ∧ (parseMethodDescriptor yX9_wipe.desc).map (fun d => d.parameters.length) = some 0 := by decide +kernel
theorem yv_X5_clear : yX5_clear.cls = RX5 ∧ yX5_clear.cls ≠ "java/lang/invoke/MethodHandle" ∧ yX5_clear.cls ≠ "java/lang/invoke/VarHandle" ∧ (parseMethodDescriptor yX5_clear.desc).map (fun d => d.parameters.length) = some 0 := by decide +kernel
theorem yv_L_number : yL_number.cls = RL ∧ yL_number.cls ≠ "java/lang/invoke/MethodHandle" ∧ yL_number.cls ≠ "java/lang/invoke/VarHandle" ∧ (parseMethodDescriptor yL_number.desc).map (fun d => d.parameters.length) = some 2 := by decide +kernel
theorem yv_X9_put : yX9_put.cls = RX9 ∧ yX9_put.cls ≠ "java/lang/invoke/MethodHandle" ∧ yX9_put.cls ≠ "java/lang/invoke/VarHandle" ∧ (parseMethodDescriptor yX9_put.desc).map (fun d => d.parameters.length) = some 1 := by decide +kernel
theorem yv_X5_countSigns : yX5_countSigns.cls = RX5 ∧ yX5_countSigns.cls ≠ "java/lang/invoke/MethodHandle" ∧ yX5_countSigns.cls ≠ "java/lang/invoke/VarHandle" ∧ (parseMethodDescriptor yX5_countSigns.desc).map (fun d => d.parameters.length) = some 1 := by decide +kernel
theorem yv_X5_append : yX5_append.cls = RX5 ∧ yX5_append.cls ≠ "java/lang/invoke/MethodHandle" ∧ yX5_append.cls ≠ "java/lang/invoke/VarHandle" ∧ (parseMethodDescriptor yX5_append.desc).map (fun d => d.parameters.length) = some 2 := by decide +kernel
theorem yv_X9_run : yX9_run.cls = RX9 ∧ yX9_run.cls ≠ "java/lang/invoke/MethodHandle" ∧ yX9_run.cls ≠ "java/lang/invoke/VarHandle" ∧ (parseMethodDescriptor yX9_run.desc).map (fun d => d.parameters.length) = some 0 := by decide +kernel
theorem yv_X5_firstFault : yX5_firstFault.cls = RX5 ∧ yX5_firstFault.cls ≠ "java/lang/invoke/MethodHandle" ∧ yX5_firstFault.cls ≠ "java/lang/invoke/VarHandle" ∧ (parseMethodDescriptor yX5_firstFault.desc).map (fun d => d.parameters.length) = some 0 := by decide +kernel
theorem yv_X5_signAt : yX5_signAt.cls = RX5 ∧ yX5_signAt.cls ≠ "java/lang/invoke/MethodHandle" ∧ yX5_signAt.cls ≠ "java/lang/invoke/VarHandle" ∧ (parseMethodDescriptor yX5_signAt.desc).map (fun d => d.parameters.length) = some 1 := by decide +kernel
theorem yv_X5_canStandAsDigit : yX5_canStandAsDigit.cls = RX5 ∧ yX5_canStandAsDigit.cls ≠ "java/lang/invoke/MethodHandle" ∧ yX5_canStandAsDigit.cls ≠ "java/lang/invoke/VarHandle" ∧ (parseMethodDescriptor yX5_canStandAsDigit.desc).map (fun d => d.parameters.length) = some 2 := by decide +kernel
theorem yv_X9_playPad : yX9_playPad.cls = RX9 ∧ yX9_playPad.cls ≠ "java/lang/invoke/MethodHandle" ∧ yX9_playPad.cls ≠ "java/lang/invoke/VarHandle" ∧ (parseMethodDescriptor yX9_playPad.desc).map (fun d => d.parameters.length) = some 0 := by decide +kernel
theorem yv_L_isWell : yL_isWell.cls = RL ∧ yL_isWell.cls ≠ "java/lang/invoke/MethodHandle" ∧ yL_isWell.cls ≠ "java/lang/invoke/VarHandle" ∧ (parseMethodDescriptor yL_isWell.desc).map (fun d => d.parameters.length) = some 1 := by decide +kernel
theorem yv_X9_forced : yX9_forced.cls = RX9 ∧ yX9_forced.cls ≠ "java/lang/invoke/MethodHandle" ∧ yX9_forced.cls ≠ "java/lang/invoke/VarHandle" ∧ (parseMethodDescriptor yX9_forced.desc).map (fun d => d.parameters.length) = some 2 := by decide +kernel
theorem yv_X9_ahead : yX9_ahead.cls = RX9 ∧ yX9_ahead.cls ≠ "java/lang/invoke/MethodHandle" ∧ yX9_ahead.cls ≠ "java/lang/invoke/VarHandle" ∧ (parseMethodDescriptor yX9_ahead.desc).map (fun d => d.parameters.length) = some 2 := by decide +kernel
theorem yv_X1_seesWinOf : yX1_seesWinOf.cls = RX1 ∧ yX1_seesWinOf.cls ≠ "java/lang/invoke/MethodHandle" ∧ yX1_seesWinOf.cls ≠ "java/lang/invoke/VarHandle" ∧ (parseMethodDescriptor yX1_seesWinOf.desc).map (fun d => d.parameters.length) = some 2 := by decide +kernel
theorem yv_X1_seesWin : yX1_seesWin.cls = RX1 ∧ yX1_seesWin.cls ≠ "java/lang/invoke/MethodHandle" ∧ yX1_seesWin.cls ≠ "java/lang/invoke/VarHandle" ∧ (parseMethodDescriptor yX1_seesWin.desc).map (fun d => d.parameters.length) = some 5 := by decide +kernel
theorem yv_X1_seesBid : yX1_seesBid.cls = RX1 ∧ yX1_seesBid.cls ≠ "java/lang/invoke/MethodHandle" ∧ yX1_seesBid.cls ≠ "java/lang/invoke/VarHandle" ∧ (parseMethodDescriptor yX1_seesBid.desc).map (fun d => d.parameters.length) = some 4 := by decide +kernel
theorem yv_X1_standsAllAnswers : yX1_standsAllAnswers.cls = RX1 ∧ yX1_standsAllAnswers.cls ≠ "java/lang/invoke/MethodHandle" ∧ yX1_standsAllAnswers.cls ≠ "java/lang/invoke/VarHandle" ∧ (parseMethodDescriptor yX1_standsAllAnswers.desc).map (fun d => d.parameters.length) = some 5 := by decide +kernel
theorem yv_X1_canTake : yX1_canTake.cls = RX1 ∧ yX1_canTake.cls ≠ "java/lang/invoke/MethodHandle" ∧ yX1_canTake.cls ≠ "java/lang/invoke/VarHandle" ∧ (parseMethodDescriptor yX1_canTake.desc).map (fun d => d.parameters.length) = some 1 := by decide +kernel
theorem yv_X1_seesTaken : yX1_seesTaken.cls = RX1 ∧ yX1_seesTaken.cls ≠ "java/lang/invoke/MethodHandle" ∧ yX1_seesTaken.cls ≠ "java/lang/invoke/VarHandle" ∧ (parseMethodDescriptor yX1_seesTaken.desc).map (fun d => d.parameters.length) = some 6 := by decide +kernel
theorem yv_X1_leastTaking : yX1_leastTaking.cls = RX1 ∧ yX1_leastTaking.cls ≠ "java/lang/invoke/MethodHandle" ∧ yX1_leastTaking.cls ≠ "java/lang/invoke/VarHandle" ∧ (parseMethodDescriptor yX1_leastTaking.desc).map (fun d => d.parameters.length) = some 1 := by decide +kernel
theorem yv_X1_seesLost : yX1_seesLost.cls = RX1 ∧ yX1_seesLost.cls ≠ "java/lang/invoke/MethodHandle" ∧ yX1_seesLost.cls ≠ "java/lang/invoke/VarHandle" ∧ (parseMethodDescriptor yX1_seesLost.desc).map (fun d => d.parameters.length) = some 6 := by decide +kernel
theorem yv_X1_seesAnswers : yX1_seesAnswers.cls = RX1 ∧ yX1_seesAnswers.cls ≠ "java/lang/invoke/MethodHandle" ∧ yX1_seesAnswers.cls ≠ "java/lang/invoke/VarHandle" ∧ (parseMethodDescriptor yX1_seesAnswers.desc).map (fun d => d.parameters.length) = some 4 := by decide +kernel
theorem yv_X1_hasAnswer : yX1_hasAnswer.cls = RX1 ∧ yX1_hasAnswer.cls ≠ "java/lang/invoke/MethodHandle" ∧ yX1_hasAnswer.cls ≠ "java/lang/invoke/VarHandle" ∧ (parseMethodDescriptor yX1_hasAnswer.desc).map (fun d => d.parameters.length) = some 5 := by decide +kernel
