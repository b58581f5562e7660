set_option maxHeartbeats 1000000 in
set_option maxRecDepth 20000 in
theorem c_X8_bidForces {S : pS} {t ow fo tm w n : Nat} {E ti ps top : Int} {tg : Int → Int} (T : TbS S t E ti ps top ow fo tm w n tg) {left tw o f : Int} (hv : vd E ps top tw o f) (hl : 0 ≤ left ∧ left ≤ 100) (ht : 0 < tw ∧ tw < 2 * E) : Ct yX8_bidForces cX8_bidForces 7 (Option.some FieldType.boolean) 2 0 0 [.ref t, .int (iI left), .int (iI tw), .int (iI o), .int (iI f)] S (kI (bC (bidP ti ps (PL ps top w tg left) tw o f)) S) := by
  obtain ⟨n1, n2, n3, n4, n5, n6, n7⟩ := T.2.2.2.2.2
  obtain ⟨w1, w2, w3, w4, w5, w6⟩ := tbN_w T.2.2.2.2.2
  have hg := T.2.2.2.2.1
  obtain ⟨v1, v2, v3, v4, v5, v6⟩ := id hv
  have vt : o ≤ top ∧ f ≤ top := by omega
  refine Ct.ofJ (by decide +kernel) (Nat.le_of_ble_eq_true rfl) ?_
  refine J_L (L1 := [some (.ref t), some (.int (iI left)), some (.int (iI tw)), some (.int (iI o)), some (.int (iI f)), none, none]) rfl ?_
  have hmx : ∀ x : Int, 0 ≤ mx 0 (x + ti) ∧ x + ti ≤ mx 0 (x + ti) ∧ (mx 0 (x + ti) = 0 ∨ mx 0 (x + ti) = x + ti) := fun x => by unfold mx; split <;> omega
  have LP2 : ∀ (x : Int), -1 ≤ x → x ≤ f → (∀ a, x < a → a ≤ f → lsP ps (PL ps top w tg left) tw o f a 0) → (x = -1 ∨ ¬ lsP ps (PL ps top w tg left) tw o f x 0) → ∀ (n : Nat) (y : Int), mx 0 (x + ti) ≤ y → (∀ e, mx 0 (x + ti) ≤ e → e < y → ¬ ((e = 0 ∧ ti = 1) ∨ tkP ps (PL ps top w tg left) tw o f e 0)) → y ≤ 100 → 100 - y < n → Jd yX8_bidForces cX8_bidForces 7 (Option.some FieldType.boolean) 2 0 0 (kI (bC (bidP ti ps (PL ps top w tg left) tw o f)) S) 0 0 S 43 [some (.ref t), some (.int (iI left)), some (.int (iI tw)), some (.int (iI o)), some (.int (iI f)), some (.int (iI x)), some (.int (iI y))] [] := by
    intro x x1 x2 x3 x4 n
    have hq := hmx x
    induction n with
    | zero => intro y y1 y3 y4 y5; omega
    | succ n ih =>
      intro y y1 y3 y4 y5
      refine J_iload (pc1 := 45) rfl dX8_bidForces_43 rfl ?_
      refine J_iload_n (pc1 := 46) rfl (i := 3) rfl dX8_bidForces_45 rfl ?_
      refine J_icmp_gt (pc1 := 49) (tgt := 81) (by omega) (by omega) (by omega) (by omega) dX8_bidForces_46 rfl rfl (fun hc1 => ?_) (fun hc1 => ?_)
      · refine J_iconst (pc1 := 82) dX8_bidForces_81 rfl ?_
        exact J_iret rfl rfl dX8_bidForces_82 (Nat.le_refl _) (Nat.le_refl _) (kI_mk (bC_f (fun z => by obtain ⟨e, e1, e2⟩ := (bid_eq n2 v4 ⟨x1, x2⟩ x3 x4).mpr z; exact y3 e e1.1 (by omega) e2)).symm)
      · refine J_aload_n (pc1 := 50) rfl (i := 0) rfl dX8_bidForces_49 rfl ?_
        refine J_iload (pc1 := 52) rfl dX8_bidForces_50 rfl ?_
        refine J_callVI (pc1 := 55) (As := [.int (iI y)]) gv_X8_56 yv_X8_neverTakes rfl (c_X8_neverTakes T (p := y) (by omega)) dX8_bidForces_52 rfl T.1 rfl rfl (by omega) (by decide) (Nat.zero_le _) (Nat.zero_le _) (Nat.le_of_ble_eq_true rfl) ?_
        refine J_if_ne (pc1 := 58) (tgt := 73) (bC_lo _) (bC_hi _) dX8_bidForces_55 rfl rfl (fun hc2 => ?_) (fun hc2 => ?_)
        · refine J_iconst (pc1 := 74) dX8_bidForces_73 rfl ?_
          exact J_iret rfl rfl dX8_bidForces_74 (Nat.le_refl _) (Nat.le_refl _) (kI_mk (by first | exact (bC_t ((bid_eq n2 v4 ⟨x1, x2⟩ x3 x4).mp ⟨y, ⟨y1, by omega⟩, Or.inl (bC_1 (by assumption))⟩)).symm | exact (bC_t ((bid_eq n2 v4 ⟨x1, x2⟩ x3 x4).mp ⟨y, ⟨y1, by omega⟩, Or.inr (bC_1 (by assumption))⟩)).symm))
        · refine J_aload_n (pc1 := 59) rfl (i := 0) rfl dX8_bidForces_58 rfl ?_
          refine J_iload_n (pc1 := 60) rfl (i := 1) rfl dX8_bidForces_59 rfl ?_
          refine J_iload_n (pc1 := 61) rfl (i := 2) rfl dX8_bidForces_60 rfl ?_
          refine J_iload_n (pc1 := 62) rfl (i := 3) rfl dX8_bidForces_61 rfl ?_
          refine J_iload (pc1 := 64) rfl dX8_bidForces_62 rfl ?_
          refine J_iload (pc1 := 66) rfl dX8_bidForces_64 rfl ?_
          refine J_iconst (pc1 := 67) dX8_bidForces_66 rfl ?_
          refine J_callVI (pc1 := 70) (As := [.int (iI left), .int (iI tw), .int (iI o), .int (iI f), .int (iI y), .int (iI 0)]) gv_X8_59 yv_X8_taken rfl (c_X8_taken T (b := 0) (p := y) hv (by omega) hl (by omega) (by omega)) dX8_bidForces_67 rfl T.1 rfl rfl (by omega) (by decide) (Nat.zero_le _) (Nat.zero_le _) (Nat.le_of_ble_eq_true rfl) ?_
          refine J_if_eq (pc1 := 73) (tgt := 75) (bC_lo _) (bC_hi _) dX8_bidForces_70 rfl rfl (fun hc3 => ?_) (fun hc3 => ?_)
          · refine J_iinc (pc1 := 78) (L1 := [some (.ref t), some (.int (iI left)), some (.int (iI tw)), some (.int (iI o)), some (.int (iI f)), some (.int (iI x)), some (.int (iI (y + 1)))]) dX8_bidForces_75 rfl rfl (by decide) rfl rfl ?_
            refine J_goto (tgt := 43) dX8_bidForces_78 rfl ?_
            refine ih (y + 1) (by omega) (fun e e1 e2 => ?_) (by omega) (by omega)
            rcases Classical.em (e = y) with q | q
            · subst q
              exact fun z => z.elim (bC_0 (by assumption)) (bC_0 (by assumption))
            · exact y3 e e1 (by omega)
          · refine J_iconst (pc1 := 74) dX8_bidForces_73 rfl ?_
            exact J_iret rfl rfl dX8_bidForces_74 (Nat.le_refl _) (Nat.le_refl _) (kI_mk (by first | exact (bC_t ((bid_eq n2 v4 ⟨x1, x2⟩ x3 x4).mp ⟨y, ⟨y1, by omega⟩, Or.inl (bC_1 (by assumption))⟩)).symm | exact (bC_t ((bid_eq n2 v4 ⟨x1, x2⟩ x3 x4).mp ⟨y, ⟨y1, by omega⟩, Or.inr (bC_1 (by assumption))⟩)).symm))
  have LP1 : ∀ (n : Nat) (x : Int), -1 ≤ x → x ≤ f → (∀ a, x < a → a ≤ f → lsP ps (PL ps top w tg left) tw o f a 0) → x + 1 < n → Jd yX8_bidForces cX8_bidForces 7 (Option.some FieldType.boolean) 2 0 0 (kI (bC (bidP ti ps (PL ps top w tg left) tw o f)) S) 0 0 S 4 [some (.ref t), some (.int (iI left)), some (.int (iI tw)), some (.int (iI o)), some (.int (iI f)), some (.int (iI x)), none] [] := by
    intro n
    induction n with
    | zero => intro x x1 x2 x3 x5; omega
    | succ n ih =>
      intro x x1 x2 x3 x5
      have hq := hmx x
      refine J_iload (pc1 := 6) rfl dX8_bidForces_4 rfl ?_
      refine J_if_lt (pc1 := 9) (tgt := 30) (by omega) (by omega) dX8_bidForces_6 rfl rfl (fun hc4 => ?_) (fun hc4 => ?_)
      · refine J_iconst (pc1 := 31) dX8_bidForces_30 rfl ?_
        refine J_iload (pc1 := 33) rfl dX8_bidForces_31 rfl ?_
        refine J_aload_n (pc1 := 34) rfl (i := 0) rfl dX8_bidForces_33 rfl ?_
        refine J_get (pc1 := 37) (j := 1) inUX8 (ci := 8) rfl (by decide) lf_X8_15 dX8_bidForces_34 rfl T.1 rfl ?_
        refine J_iadd (pc1 := 38) dX8_bidForces_37 rfl ?_
        refine J_max (pc1 := 41) (by decide) (by decide) (by omega) (by omega) lm_X8_25 dX8_bidForces_38 rfl (by omega) (Nat.le_of_ble_eq_true rfl) (by omega) (by omega) ?_
        refine J_istore (pc1 := 43) (L1 := [some (.ref t), some (.int (iI left)), some (.int (iI tw)), some (.int (iI o)), some (.int (iI f)), some (.int (iI x)), some (.int (iI (mx 0 (x + ti))))]) dX8_bidForces_41 rfl (by decide) rfl rfl ?_
        exact LP2 x x1 x2 x3 (by first | exact Or.inl (by omega) | exact Or.inr (bC_0 (by assumption))) 101 (mx 0 (x + ti)) (Int.le_refl _) (fun e e1 e2 => by omega) (by omega) (by omega)
      · refine J_aload_n (pc1 := 10) rfl (i := 0) rfl dX8_bidForces_9 rfl ?_
        refine J_iload_n (pc1 := 11) rfl (i := 1) rfl dX8_bidForces_10 rfl ?_
        refine J_iload_n (pc1 := 12) rfl (i := 2) rfl dX8_bidForces_11 rfl ?_
        refine J_iload_n (pc1 := 13) rfl (i := 3) rfl dX8_bidForces_12 rfl ?_
        refine J_iload (pc1 := 15) rfl dX8_bidForces_13 rfl ?_
        refine J_iload (pc1 := 17) rfl dX8_bidForces_15 rfl ?_
        refine J_iconst (pc1 := 18) dX8_bidForces_17 rfl ?_
        refine J_callVI (pc1 := 21) (As := [.int (iI left), .int (iI tw), .int (iI o), .int (iI f), .int (iI x), .int (iI 0)]) gv_X8_52 yv_X8_lost rfl (c_X8_lost T (b := 0) (p := x) hv (by omega) hl (by omega) (by omega)) dX8_bidForces_18 rfl T.1 rfl rfl (by omega) (by decide) (Nat.zero_le _) (Nat.zero_le _) (Nat.le_of_ble_eq_true rfl) ?_
        refine J_if_eq (pc1 := 24) (tgt := 30) (bC_lo _) (bC_hi _) dX8_bidForces_21 rfl rfl (fun hc5 => ?_) (fun hc5 => ?_)
        · refine J_iconst (pc1 := 31) dX8_bidForces_30 rfl ?_
          refine J_iload (pc1 := 33) rfl dX8_bidForces_31 rfl ?_
          refine J_aload_n (pc1 := 34) rfl (i := 0) rfl dX8_bidForces_33 rfl ?_
          refine J_get (pc1 := 37) (j := 1) inUX8 (ci := 8) rfl (by decide) lf_X8_15 dX8_bidForces_34 rfl T.1 rfl ?_
          refine J_iadd (pc1 := 38) dX8_bidForces_37 rfl ?_
          refine J_max (pc1 := 41) (by decide) (by decide) (by omega) (by omega) lm_X8_25 dX8_bidForces_38 rfl (by omega) (Nat.le_of_ble_eq_true rfl) (by omega) (by omega) ?_
          refine J_istore (pc1 := 43) (L1 := [some (.ref t), some (.int (iI left)), some (.int (iI tw)), some (.int (iI o)), some (.int (iI f)), some (.int (iI x)), some (.int (iI (mx 0 (x + ti))))]) dX8_bidForces_41 rfl (by decide) rfl rfl ?_
          exact LP2 x x1 x2 x3 (by first | exact Or.inl (by omega) | exact Or.inr (bC_0 (by assumption))) 101 (mx 0 (x + ti)) (Int.le_refl _) (fun e e1 e2 => by omega) (by omega) (by omega)
        · refine J_iinc (pc1 := 27) (L1 := [some (.ref t), some (.int (iI left)), some (.int (iI tw)), some (.int (iI o)), some (.int (iI f)), some (.int (iI (x + (-1)))), none]) dX8_bidForces_24 rfl rfl (by decide) rfl rfl ?_
          refine J_goto (tgt := 4) dX8_bidForces_27 rfl ?_
          refine ih (x + (-1)) (by omega) (by omega) (fun a a1 a2 => ?_) (by omega)
          rcases Classical.em (a = x) with q | q
          · subst q
            exact bC_1 (by assumption)
          · exact x3 a (by omega) a2
  refine J_iload (pc1 := 2) rfl dX8_bidForces_0 rfl ?_
  refine J_istore (pc1 := 4) (L1 := [some (.ref t), some (.int (iI left)), some (.int (iI tw)), some (.int (iI o)), some (.int (iI f)), some (.int (iI f)), none]) dX8_bidForces_2 rfl (by decide) rfl rfl ?_
  exact LP1 101 f (by omega) (by omega) (fun a a1 a2 => by omega) (by omega)
set_option maxHeartbeats 1000000 in
set_option maxRecDepth 20000 in
theorem c_X8_answerForces {S : pS} {t ow fo tm w n : Nat} {E ti ps top : Int} {tg : Int → Int} (T : TbS S t E ti ps top ow fo tm w n tg) {left tw o f : Int} (hv : vd E ps top tw o f) (hl : 0 ≤ left ∧ left ≤ 100) (ht : 0 < tw ∧ tw < 2 * E) : Ct yX8_answerForces cX8_answerForces 7 (Option.some FieldType.boolean) 2 0 0 [.ref t, .int (iI left), .int (iI tw), .int (iI o), .int (iI f)] S (kI (bC (ansP ti ps (PL ps top w tg left) tw o f)) S) := by
  obtain ⟨n1, n2, n3, n4, n5, n6, n7⟩ := T.2.2.2.2.2
  obtain ⟨w1, w2, w3, w4, w5, w6⟩ := tbN_w T.2.2.2.2.2
  have hg := T.2.2.2.2.1
  obtain ⟨v1, v2, v3, v4, v5, v6⟩ := id hv
  have vt : o ≤ top ∧ f ≤ top := by omega
  refine Ct.ofJ (by decide +kernel) (Nat.le_of_ble_eq_true rfl) ?_
  refine J_L (L1 := [some (.ref t), some (.int (iI left)), some (.int (iI tw)), some (.int (iI o)), some (.int (iI f)), none, none]) rfl ?_
  have hmx : ∀ x : Int, 0 ≤ mx 0 (x + ti) ∧ x + ti ≤ mx 0 (x + ti) ∧ (mx 0 (x + ti) = 0 ∨ mx 0 (x + ti) = x + ti) := fun x => by unfold mx; split <;> omega
  have LP2 : ∀ (x : Int), -1 ≤ x → x ≤ o → (∀ a, x < a → a ≤ o → ¬ tkP ps (PL ps top w tg left) tw o f a 1) → (x = -1 ∨ tkP ps (PL ps top w tg left) tw o f x 1) → ∀ (n : Nat) (y : Int), mx 0 (x + ti) ≤ y → (∀ e, mx 0 (x + ti) ≤ e → e < y → ¬ (e = 0 ∧ ti = 1) ∧ lsP ps (PL ps top w tg left) tw o f e 1) → y ≤ 100 → 100 - y < n → Jd yX8_answerForces cX8_answerForces 7 (Option.some FieldType.boolean) 2 0 0 (kI (bC (ansP ti ps (PL ps top w tg left) tw o f)) S) 0 0 S 42 [some (.ref t), some (.int (iI left)), some (.int (iI tw)), some (.int (iI o)), some (.int (iI f)), some (.int (iI x)), some (.int (iI y))] [] := by
    intro x x1 x2 x3 x4 n
    have hq := hmx x
    induction n with
    | zero => intro y y1 y3 y4 y5; omega
    | succ n ih =>
      intro y y1 y3 y4 y5
      refine J_iload (pc1 := 44) rfl dX8_answerForces_42 rfl ?_
      refine J_iload (pc1 := 46) rfl dX8_answerForces_44 rfl ?_
      refine J_icmp_gt (pc1 := 49) (tgt := 81) (by omega) (by omega) (by omega) (by omega) dX8_answerForces_46 rfl rfl (fun hc1 => ?_) (fun hc1 => ?_)
      · refine J_iconst (pc1 := 82) dX8_answerForces_81 rfl ?_
        exact J_iret rfl rfl dX8_answerForces_82 (Nat.le_refl _) (Nat.le_refl _) (kI_mk (bC_t ((ans_eq n2 v3 ⟨x1, x2⟩ x3 x4).mp (fun e e1 e2 => y3 e e1 (by omega)))).symm)
      · refine J_aload_n (pc1 := 50) rfl (i := 0) rfl dX8_answerForces_49 rfl ?_
        refine J_iload (pc1 := 52) rfl dX8_answerForces_50 rfl ?_
        refine J_callVI (pc1 := 55) (As := [.int (iI y)]) gv_X8_56 yv_X8_neverTakes rfl (c_X8_neverTakes T (p := y) (by omega)) dX8_answerForces_52 rfl T.1 rfl rfl (by omega) (by decide) (Nat.zero_le _) (Nat.zero_le _) (Nat.le_of_ble_eq_true rfl) ?_
        refine J_if_ne (pc1 := 58) (tgt := 73) (bC_lo _) (bC_hi _) dX8_answerForces_55 rfl rfl (fun hc2 => ?_) (fun hc2 => ?_)
        · refine J_iconst (pc1 := 74) dX8_answerForces_73 rfl ?_
          exact J_iret rfl rfl dX8_answerForces_74 (Nat.le_refl _) (Nat.le_refl _) (kI_mk (by first | exact (bC_f (fun z => ((ans_eq n2 v3 ⟨x1, x2⟩ x3 x4).mpr z y y1 (by omega)).1 (bC_1 (by assumption)))).symm | exact (bC_f (fun z => bC_0 (by assumption) ((ans_eq n2 v3 ⟨x1, x2⟩ x3 x4).mpr z y y1 (by omega)).2)).symm))
        · refine J_aload_n (pc1 := 59) rfl (i := 0) rfl dX8_answerForces_58 rfl ?_
          refine J_iload_n (pc1 := 60) rfl (i := 1) rfl dX8_answerForces_59 rfl ?_
          refine J_iload_n (pc1 := 61) rfl (i := 2) rfl dX8_answerForces_60 rfl ?_
          refine J_iload_n (pc1 := 62) rfl (i := 3) rfl dX8_answerForces_61 rfl ?_
          refine J_iload (pc1 := 64) rfl dX8_answerForces_62 rfl ?_
          refine J_iload (pc1 := 66) rfl dX8_answerForces_64 rfl ?_
          refine J_iconst (pc1 := 67) dX8_answerForces_66 rfl ?_
          refine J_callVI (pc1 := 70) (As := [.int (iI left), .int (iI tw), .int (iI o), .int (iI f), .int (iI y), .int (iI 1)]) gv_X8_52 yv_X8_lost rfl (c_X8_lost T (b := 1) (p := y) hv (by omega) hl (by omega) (by omega)) dX8_answerForces_67 rfl T.1 rfl rfl (by omega) (by decide) (Nat.zero_le _) (Nat.zero_le _) (Nat.le_of_ble_eq_true rfl) ?_
          refine J_if_ne (pc1 := 73) (tgt := 75) (bC_lo _) (bC_hi _) dX8_answerForces_70 rfl rfl (fun hc3 => ?_) (fun hc3 => ?_)
          · refine J_iinc (pc1 := 78) (L1 := [some (.ref t), some (.int (iI left)), some (.int (iI tw)), some (.int (iI o)), some (.int (iI f)), some (.int (iI x)), some (.int (iI (y + 1)))]) dX8_answerForces_75 rfl rfl (by decide) rfl rfl ?_
            refine J_goto (tgt := 42) dX8_answerForces_78 rfl ?_
            refine ih (y + 1) (by omega) (fun e e1 e2 => ?_) (by omega) (by omega)
            rcases Classical.em (e = y) with q | q
            · subst q
              exact ⟨bC_0 (by assumption), bC_1 (by assumption)⟩
            · exact y3 e e1 (by omega)
          · refine J_iconst (pc1 := 74) dX8_answerForces_73 rfl ?_
            exact J_iret rfl rfl dX8_answerForces_74 (Nat.le_refl _) (Nat.le_refl _) (kI_mk (by first | exact (bC_f (fun z => ((ans_eq n2 v3 ⟨x1, x2⟩ x3 x4).mpr z y y1 (by omega)).1 (bC_1 (by assumption)))).symm | exact (bC_f (fun z => bC_0 (by assumption) ((ans_eq n2 v3 ⟨x1, x2⟩ x3 x4).mpr z y y1 (by omega)).2)).symm))
  have LP1 : ∀ (n : Nat) (x : Int), -1 ≤ x → x ≤ o → (∀ a, x < a → a ≤ o → ¬ tkP ps (PL ps top w tg left) tw o f a 1) → x + 1 < n → Jd yX8_answerForces cX8_answerForces 7 (Option.some FieldType.boolean) 2 0 0 (kI (bC (ansP ti ps (PL ps top w tg left) tw o f)) S) 0 0 S 3 [some (.ref t), some (.int (iI left)), some (.int (iI tw)), some (.int (iI o)), some (.int (iI f)), some (.int (iI x)), none] [] := by
    intro n
    induction n with
    | zero => intro x x1 x2 x3 x5; omega
    | succ n ih =>
      intro x x1 x2 x3 x5
      have hq := hmx x
      refine J_iload (pc1 := 5) rfl dX8_answerForces_3 rfl ?_
      refine J_if_lt (pc1 := 8) (tgt := 29) (by omega) (by omega) dX8_answerForces_5 rfl rfl (fun hc4 => ?_) (fun hc4 => ?_)
      · refine J_iconst (pc1 := 30) dX8_answerForces_29 rfl ?_
        refine J_iload (pc1 := 32) rfl dX8_answerForces_30 rfl ?_
        refine J_aload_n (pc1 := 33) rfl (i := 0) rfl dX8_answerForces_32 rfl ?_
        refine J_get (pc1 := 36) (j := 1) inUX8 (ci := 8) rfl (by decide) lf_X8_15 dX8_answerForces_33 rfl T.1 rfl ?_
        refine J_iadd (pc1 := 37) dX8_answerForces_36 rfl ?_
        refine J_max (pc1 := 40) (by decide) (by decide) (by omega) (by omega) lm_X8_25 dX8_answerForces_37 rfl (by omega) (Nat.le_of_ble_eq_true rfl) (by omega) (by omega) ?_
        refine J_istore (pc1 := 42) (L1 := [some (.ref t), some (.int (iI left)), some (.int (iI tw)), some (.int (iI o)), some (.int (iI f)), some (.int (iI x)), some (.int (iI (mx 0 (x + ti))))]) dX8_answerForces_40 rfl (by decide) rfl rfl ?_
        exact LP2 x x1 x2 x3 (by first | exact Or.inl (by omega) | exact Or.inr (bC_1 (by assumption))) 101 (mx 0 (x + ti)) (Int.le_refl _) (fun e e1 e2 => by omega) (by omega) (by omega)
      · refine J_aload_n (pc1 := 9) rfl (i := 0) rfl dX8_answerForces_8 rfl ?_
        refine J_iload_n (pc1 := 10) rfl (i := 1) rfl dX8_answerForces_9 rfl ?_
        refine J_iload_n (pc1 := 11) rfl (i := 2) rfl dX8_answerForces_10 rfl ?_
        refine J_iload_n (pc1 := 12) rfl (i := 3) rfl dX8_answerForces_11 rfl ?_
        refine J_iload (pc1 := 14) rfl dX8_answerForces_12 rfl ?_
        refine J_iload (pc1 := 16) rfl dX8_answerForces_14 rfl ?_
        refine J_iconst (pc1 := 17) dX8_answerForces_16 rfl ?_
        refine J_callVI (pc1 := 20) (As := [.int (iI left), .int (iI tw), .int (iI o), .int (iI f), .int (iI x), .int (iI 1)]) gv_X8_59 yv_X8_taken rfl (c_X8_taken T (b := 1) (p := x) hv (by omega) hl (by omega) (by omega)) dX8_answerForces_17 rfl T.1 rfl rfl (by omega) (by decide) (Nat.zero_le _) (Nat.zero_le _) (Nat.le_of_ble_eq_true rfl) ?_
        refine J_if_ne (pc1 := 23) (tgt := 29) (bC_lo _) (bC_hi _) dX8_answerForces_20 rfl rfl (fun hc5 => ?_) (fun hc5 => ?_)
        · refine J_iconst (pc1 := 30) dX8_answerForces_29 rfl ?_
          refine J_iload (pc1 := 32) rfl dX8_answerForces_30 rfl ?_
          refine J_aload_n (pc1 := 33) rfl (i := 0) rfl dX8_answerForces_32 rfl ?_
          refine J_get (pc1 := 36) (j := 1) inUX8 (ci := 8) rfl (by decide) lf_X8_15 dX8_answerForces_33 rfl T.1 rfl ?_
          refine J_iadd (pc1 := 37) dX8_answerForces_36 rfl ?_
          refine J_max (pc1 := 40) (by decide) (by decide) (by omega) (by omega) lm_X8_25 dX8_answerForces_37 rfl (by omega) (Nat.le_of_ble_eq_true rfl) (by omega) (by omega) ?_
          refine J_istore (pc1 := 42) (L1 := [some (.ref t), some (.int (iI left)), some (.int (iI tw)), some (.int (iI o)), some (.int (iI f)), some (.int (iI x)), some (.int (iI (mx 0 (x + ti))))]) dX8_answerForces_40 rfl (by decide) rfl rfl ?_
          exact LP2 x x1 x2 x3 (by first | exact Or.inl (by omega) | exact Or.inr (bC_1 (by assumption))) 101 (mx 0 (x + ti)) (Int.le_refl _) (fun e e1 e2 => by omega) (by omega) (by omega)
        · refine J_iinc (pc1 := 26) (L1 := [some (.ref t), some (.int (iI left)), some (.int (iI tw)), some (.int (iI o)), some (.int (iI f)), some (.int (iI (x + (-1)))), none]) dX8_answerForces_23 rfl rfl (by decide) rfl rfl ?_
          refine J_goto (tgt := 3) dX8_answerForces_26 rfl ?_
          refine ih (x + (-1)) (by omega) (by omega) (fun a a1 a2 => ?_) (by omega)
          rcases Classical.em (a = x) with q | q
          · subst q
            exact bC_0 (by assumption)
          · exact x3 a (by omega) a2
  refine J_iload_n (pc1 := 1) rfl (i := 3) rfl dX8_answerForces_0 rfl ?_
  refine J_istore (pc1 := 3) (L1 := [some (.ref t), some (.int (iI left)), some (.int (iI tw)), some (.int (iI o)), some (.int (iI f)), some (.int (iI o)), none]) dX8_answerForces_1 rfl (by decide) rfl rfl ?_
  exact LP1 101 o (by omega) (by omega) (fun a a1 a2 => by omega) (by omega)
