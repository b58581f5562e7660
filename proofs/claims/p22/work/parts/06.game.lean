set_option maxHeartbeats 400000 in
set_option maxRecDepth 20000 in
theorem c_X2_winner {S : pS} {g : Nat} {e h : Int} {v1 v2 v3 v5 v6 v7 v8 v9 : Value} (hg : S g = some (oO 2 [.int (iI e), v1, v2, v3, .int (iI h), v5, v6, v7, v8, v9])) (he : 0 ≤ e ∧ e ≤ 1000) (hh : -1000 ≤ h ∧ h ≤ 1000) : Ct yX2_winner cX2_winner 1 (Option.some FieldType.int) 0 0 0 [.ref g] S (kI (winE e h) S) := by
  refine Ct.ofJ (by decide +kernel) (Nat.le_of_ble_eq_true rfl) ?_
  refine J_L (L1 := [some (.ref g)]) rfl ?_
  refine J_aload_n (pc1 := 1) rfl (i := 0) rfl dX2_winner_0 rfl ?_
  refine J_get (pc1 := 4) (j := 4) inUX2 (ci := 2) rfl (by decide) lf_X2_34 dX2_winner_1 rfl hg rfl ?_
  refine J_aload_n (pc1 := 5) rfl (i := 0) rfl dX2_winner_4 rfl ?_
  refine J_get (pc1 := 8) (j := 0) inUX2 (ci := 2) rfl (by decide) lf_X2_9 dX2_winner_5 rfl hg rfl ?_
  refine J_icmp_lt (pc1 := 11) (tgt := 13) (by omega) (by omega) (by omega) (by omega) dX2_winner_8 rfl rfl (fun hc1 => ?_) (fun hc1 => ?_)
  · refine J_aload_n (pc1 := 14) rfl (i := 0) rfl dX2_winner_13 rfl ?_
    refine J_get (pc1 := 17) (j := 4) inUX2 (ci := 2) rfl (by decide) lf_X2_34 dX2_winner_14 rfl hg rfl ?_
    refine J_aload_n (pc1 := 18) rfl (i := 0) rfl dX2_winner_17 rfl ?_
    refine J_get (pc1 := 21) (j := 0) inUX2 (ci := 2) rfl (by decide) lf_X2_9 dX2_winner_18 rfl hg rfl ?_
    refine J_ineg (pc1 := 22) dX2_winner_21 rfl ?_
    refine J_icmp_gt (pc1 := 25) (tgt := 29) (by omega) (by omega) (by omega) (by omega) dX2_winner_22 rfl rfl (fun hc2 => ?_) (fun hc2 => ?_)
    · refine J_sipush (pc1 := 32) (by decide) dX2_winner_29 rfl ?_
      exact J_iret rfl rfl dX2_winner_32 (Nat.le_refl _) (Nat.le_refl _) (kI_mk (by unfold winE; (repeat' split) <;> omega))
    · refine J_iconst (pc1 := 26) dX2_winner_25 rfl ?_
      refine J_goto (tgt := 32) dX2_winner_26 rfl ?_
      exact J_iret rfl rfl dX2_winner_32 (Nat.le_refl _) (Nat.le_refl _) (kI_mk (by unfold winE; (repeat' split) <;> omega))
  · refine J_iconst (pc1 := 12) dX2_winner_11 rfl ?_
    exact J_iret rfl rfl dX2_winner_12 (Nat.le_refl _) (Nat.le_refl _) (kI_mk (by unfold winE; (repeat' split) <;> omega))
set_option maxHeartbeats 400000 in
set_option maxRecDepth 20000 in
theorem c_X2_isOver {S : pS} {g : Nat} {e h : Int} {v1 v2 v3 v5 v6 v7 v8 v9 : Value} (hg : S g = some (oO 2 [.int (iI e), v1, v2, v3, .int (iI h), v5, v6, v7, v8, v9])) (he : 0 ≤ e ∧ e ≤ 1000) (hh : -1000 ≤ h ∧ h ≤ 1000) : Ct yX2_isOver cX2_isOver 1 (Option.some FieldType.boolean) 1 0 0 [.ref g] S (kI (bZ (winE e h ≠ -1006)) S) := by
  have hw := winE_b e h
  refine Ct.ofJ (by decide +kernel) (Nat.le_of_ble_eq_true rfl) ?_
  refine J_L (L1 := [some (.ref g)]) rfl ?_
  refine J_aload_n (pc1 := 1) rfl (i := 0) rfl dX2_isOver_0 rfl ?_
  refine J_callVI (pc1 := 4) (As := []) gv_X2_53 yv_X2_winner rfl (c_X2_winner hg he hh) dX2_isOver_1 rfl hg rfl rfl (by omega) (by decide) (Nat.zero_le _) (Nat.zero_le _) (Nat.le_of_ble_eq_true rfl) ?_
  refine J_sipush (pc1 := 7) (by decide) dX2_isOver_4 rfl ?_
  refine J_icmp_eq (pc1 := 10) (tgt := 14) (by omega) (by omega) (by decide) (by decide) dX2_isOver_7 rfl rfl (fun hc1 => ?_) (fun hc1 => ?_)
  · refine J_iconst (pc1 := 15) dX2_isOver_14 rfl ?_
    exact J_iret rfl rfl dX2_isOver_15 (Nat.le_refl _) (Nat.le_refl _) (kI_mk (by first | exact bZ_t (by omega) | exact bZ_f (by omega)))
  · refine J_iconst (pc1 := 11) dX2_isOver_10 rfl ?_
    refine J_goto (tgt := 15) dX2_isOver_11 rfl ?_
    exact J_iret rfl rfl dX2_isOver_15 (Nat.le_refl _) (Nat.le_refl _) (kI_mk (by first | exact bZ_t (by omega) | exact bZ_f (by omega)))
set_option maxHeartbeats 400000 in
set_option maxRecDepth 20000 in
theorem c_X2_sideOf0 {S : pS} {g z o : Nat} {v0 v1 v2 v3 v4 v5 v6 v7 : Value} (hg : S g = some (oO 2 [v0, v1, v2, v3, v4, v5, v6, v7, .ref z, .ref o])) : Ct yX2_sideOf cX2_sideOf 2 (Option.some (FieldType.object "BorrowedHours$Side")) 0 0 0 [.ref g, .int (iI 0)] S (kF z S) := by
  refine Ct.ofJ (by decide +kernel) (Nat.le_of_ble_eq_true rfl) ?_
  refine J_L (L1 := [some (.ref g), some (.int (iI 0))]) rfl ?_
  refine J_iload_n (pc1 := 1) rfl (i := 1) rfl dX2_sideOf_0 rfl ?_
  refine J_if_ne (pc1 := 4) (tgt := 11) (by decide) (by decide) dX2_sideOf_1 rfl rfl (fun hc1 => ?_) (fun hc1 => ?_)
  · exact absurd hc1 (by decide)
  · refine J_aload_n (pc1 := 5) rfl (i := 0) rfl dX2_sideOf_4 rfl ?_
    refine J_get (pc1 := 8) (j := 8) inUX2 (ci := 2) rfl (by decide) lf_X2_18 dX2_sideOf_5 rfl hg rfl ?_
    refine J_goto (tgt := 15) dX2_sideOf_8 rfl ?_
    exact J_aret rfl dX2_sideOf_15 (Nat.le_refl _) (Nat.le_refl _) (⟨rfl, rfl⟩)
set_option maxHeartbeats 400000 in
set_option maxRecDepth 20000 in
theorem c_X2_sideOf1 {S : pS} {g z o : Nat} {v0 v1 v2 v3 v4 v5 v6 v7 : Value} (hg : S g = some (oO 2 [v0, v1, v2, v3, v4, v5, v6, v7, .ref z, .ref o])) : Ct yX2_sideOf cX2_sideOf 2 (Option.some (FieldType.object "BorrowedHours$Side")) 0 0 0 [.ref g, .int (iI 1)] S (kF o S) := by
  refine Ct.ofJ (by decide +kernel) (Nat.le_of_ble_eq_true rfl) ?_
  refine J_L (L1 := [some (.ref g), some (.int (iI 1))]) rfl ?_
  refine J_iload_n (pc1 := 1) rfl (i := 1) rfl dX2_sideOf_0 rfl ?_
  refine J_if_ne (pc1 := 4) (tgt := 11) (by decide) (by decide) dX2_sideOf_1 rfl rfl (fun hc1 => ?_) (fun hc1 => ?_)
  · refine J_aload_n (pc1 := 12) rfl (i := 0) rfl dX2_sideOf_11 rfl ?_
    refine J_get (pc1 := 15) (j := 9) inUX2 (ci := 2) rfl (by decide) lf_X2_22 dX2_sideOf_12 rfl hg rfl ?_
    exact J_aret rfl dX2_sideOf_15 (Nat.le_refl _) (Nat.le_refl _) (⟨rfl, rfl⟩)
  · exact absurd hc1 (by decide)
set_option maxHeartbeats 400000 in
set_option maxRecDepth 20000 in
theorem c_X2_mostOf0 {S : pS} {g z o : Nat} {f : Int → Int} (hg : IsG S g z o f) : Ct yX2_mostOf cX2_mostOf 2 (Option.some FieldType.int) 1 0 0 [.ref g, .int (iI 0)] S (kI (f 7 + f 1) S) := by
  refine Ct.ofJ (by decide +kernel) (Nat.le_of_ble_eq_true rfl) ?_
  refine J_L (L1 := [some (.ref g), some (.int (iI 0))]) rfl ?_
  refine J_aload_n (pc1 := 1) rfl (i := 0) rfl dX2_mostOf_0 rfl ?_
  refine J_iload_n (pc1 := 2) rfl (i := 1) rfl dX2_mostOf_1 rfl ?_
  refine J_callVF (pc1 := 5) (As := [.int (iI 0)]) gv_X2_57 yv_X2_sideOf rfl (c_X2_sideOf0 hg.1) dX2_mostOf_2 rfl hg.1 rfl rfl (by omega) (by decide) (Nat.zero_le _) (Nat.zero_le _) (Nat.le_of_ble_eq_true rfl) ?_
  refine J_get (pc1 := 8) (j := 1) inUX6 (ci := 6) rfl (by decide) lf_X2_61 dX2_mostOf_5 rfl hg.2.1 rfl ?_
  refine J_aload_n (pc1 := 9) rfl (i := 0) rfl dX2_mostOf_8 rfl ?_
  refine J_get (pc1 := 12) (j := 1) inUX2 (ci := 2) rfl (by decide) lf_X2_25 dX2_mostOf_9 rfl hg.1 rfl ?_
  refine J_iadd (pc1 := 13) dX2_mostOf_12 rfl ?_
  exact J_iret rfl rfl dX2_mostOf_13 (Nat.le_refl _) (Nat.le_refl _) (kI_mk rfl)
set_option maxHeartbeats 400000 in
set_option maxRecDepth 20000 in
theorem c_X2_mostOf1 {S : pS} {g z o : Nat} {f : Int → Int} (hg : IsG S g z o f) : Ct yX2_mostOf cX2_mostOf 2 (Option.some FieldType.int) 1 0 0 [.ref g, .int (iI 1)] S (kI (f 8 + f 1) S) := by
  refine Ct.ofJ (by decide +kernel) (Nat.le_of_ble_eq_true rfl) ?_
  refine J_L (L1 := [some (.ref g), some (.int (iI 1))]) rfl ?_
  refine J_aload_n (pc1 := 1) rfl (i := 0) rfl dX2_mostOf_0 rfl ?_
  refine J_iload_n (pc1 := 2) rfl (i := 1) rfl dX2_mostOf_1 rfl ?_
  refine J_callVF (pc1 := 5) (As := [.int (iI 1)]) gv_X2_57 yv_X2_sideOf rfl (c_X2_sideOf1 hg.1) dX2_mostOf_2 rfl hg.1 rfl rfl (by omega) (by decide) (Nat.zero_le _) (Nat.zero_le _) (Nat.le_of_ble_eq_true rfl) ?_
  refine J_get (pc1 := 8) (j := 1) inUX6 (ci := 6) rfl (by decide) lf_X2_61 dX2_mostOf_5 rfl hg.2.2.1 rfl ?_
  refine J_aload_n (pc1 := 9) rfl (i := 0) rfl dX2_mostOf_8 rfl ?_
  refine J_get (pc1 := 12) (j := 1) inUX2 (ci := 2) rfl (by decide) lf_X2_25 dX2_mostOf_9 rfl hg.1 rfl ?_
  refine J_iadd (pc1 := 13) dX2_mostOf_12 rfl ?_
  exact J_iret rfl rfl dX2_mostOf_13 (Nat.le_refl _) (Nat.le_refl _) (kI_mk rfl)
/-- Game.mostOf(p) -/
theorem c_X2_mostOf {S : pS} {g z o : Nat} {f : Int → Int} (hg : IsG S g z o f) {p : Int} (hp : p = 0 ∨ p = 1) : Ct yX2_mostOf cX2_mostOf 2 (Option.some FieldType.int) 1 0 0 [.ref g, .int (iI p)] S (kI (moF f p) S) := by
  rcases hp with rfl | rfl
  · exact c_X2_mostOf0 hg
  · exact c_X2_mostOf1 hg
set_option maxHeartbeats 400000 in
set_option maxRecDepth 20000 in
theorem c_X2_settingOf {S : pS} {g z o : Nat} {f : Int → Int} (hg : IsG S g z o f) {k : Int} (hk : 0 ≤ k ∧ k ≤ 3) : Ct yX2_settingOf cX2_settingOf 2 (Option.some FieldType.int) 0 0 0 [.ref g, .int (iI k)] S (kI (f k) S) := by
  refine Ct.ofJ (by decide +kernel) (Nat.le_of_ble_eq_true rfl) ?_
  refine J_L (L1 := [some (.ref g), some (.int (iI k))]) rfl ?_
  refine J_iload_n (pc1 := 1) rfl (i := 1) rfl dX2_settingOf_0 rfl ?_
  rcases (show k = 0 ∨ k = 1 ∨ k = 2 ∨ (k < 0 ∨ 2 < k) by omega) with hs1 | hs1 | hs1 | hs1
  · refine J_tableIn (tgt := 28) (by omega) (by omega) dX2_settingOf_1 (by omega) (by omega) (by rw [hs1]; rfl) rfl ?_
    refine J_aload_n (pc1 := 29) rfl (i := 0) rfl dX2_settingOf_28 rfl ?_
    refine J_get (pc1 := 32) (j := 0) inUX2 (ci := 2) rfl (by decide) lf_X2_9 dX2_settingOf_29 rfl hg.1 rfl ?_
    exact J_iret rfl rfl dX2_settingOf_32 (Nat.le_refl _) (Nat.le_refl _) (kI_mk (by first | rw [hs1] | (rw [show k = 3 by omega])))
  · refine J_tableIn (tgt := 33) (by omega) (by omega) dX2_settingOf_1 (by omega) (by omega) (by rw [hs1]; rfl) rfl ?_
    refine J_aload_n (pc1 := 34) rfl (i := 0) rfl dX2_settingOf_33 rfl ?_
    refine J_get (pc1 := 37) (j := 1) inUX2 (ci := 2) rfl (by decide) lf_X2_25 dX2_settingOf_34 rfl hg.1 rfl ?_
    exact J_iret rfl rfl dX2_settingOf_37 (Nat.le_refl _) (Nat.le_refl _) (kI_mk (by first | rw [hs1] | (rw [show k = 3 by omega])))
  · refine J_tableIn (tgt := 38) (by omega) (by omega) dX2_settingOf_1 (by omega) (by omega) (by rw [hs1]; rfl) rfl ?_
    refine J_aload_n (pc1 := 39) rfl (i := 0) rfl dX2_settingOf_38 rfl ?_
    refine J_get (pc1 := 42) (j := 2) inUX2 (ci := 2) rfl (by decide) lf_X2_28 dX2_settingOf_39 rfl hg.1 rfl ?_
    exact J_iret rfl rfl dX2_settingOf_42 (Nat.le_refl _) (Nat.le_refl _) (kI_mk (by first | rw [hs1] | (rw [show k = 3 by omega])))
  · refine J_tableOut (tgt := 43) (by omega) (by omega) dX2_settingOf_1 hs1 rfl ?_
    refine J_aload_n (pc1 := 44) rfl (i := 0) rfl dX2_settingOf_43 rfl ?_
    refine J_get (pc1 := 47) (j := 3) inUX2 (ci := 2) rfl (by decide) lf_X2_31 dX2_settingOf_44 rfl hg.1 rfl ?_
    exact J_iret rfl rfl dX2_settingOf_47 (Nat.le_refl _) (Nat.le_refl _) (kI_mk (by first | rw [hs1] | (rw [show k = 3 by omega])))
set_option maxHeartbeats 400000 in
set_option maxRecDepth 20000 in
theorem c_X2_toWin {S : pS} {g z o : Nat} {f : Int → Int} (hg : IsG S g z o f) {p : Int} (hp : p = 0 ∨ p = 1) : Ct yX2_toWin cX2_toWin 2 (Option.some FieldType.int) 0 0 0 [.ref g, .int (iI p)] S (kI (twF f p) S) := by
  refine Ct.ofJ (by decide +kernel) (Nat.le_of_ble_eq_true rfl) ?_
  refine J_L (L1 := [some (.ref g), some (.int (iI p))]) rfl ?_
  refine J_iload_n (pc1 := 1) rfl (i := 1) rfl dX2_toWin_0 rfl ?_
  refine J_if_ne (pc1 := 4) (tgt := 16) (by omega) (by omega) dX2_toWin_1 rfl rfl (fun hc1 => ?_) (fun hc1 => ?_)
  · refine J_aload_n (pc1 := 17) rfl (i := 0) rfl dX2_toWin_16 rfl ?_
    refine J_get (pc1 := 20) (j := 0) inUX2 (ci := 2) rfl (by decide) lf_X2_9 dX2_toWin_17 rfl hg.1 rfl ?_
    refine J_aload_n (pc1 := 21) rfl (i := 0) rfl dX2_toWin_20 rfl ?_
    refine J_get (pc1 := 24) (j := 4) inUX2 (ci := 2) rfl (by decide) lf_X2_34 dX2_toWin_21 rfl hg.1 rfl ?_
    refine J_iadd (pc1 := 25) dX2_toWin_24 rfl ?_
    exact J_iret rfl rfl dX2_toWin_25 (Nat.le_refl _) (Nat.le_refl _) (kI_mk (by unfold twF; (repeat' split) <;> omega))
  · refine J_aload_n (pc1 := 5) rfl (i := 0) rfl dX2_toWin_4 rfl ?_
    refine J_get (pc1 := 8) (j := 0) inUX2 (ci := 2) rfl (by decide) lf_X2_9 dX2_toWin_5 rfl hg.1 rfl ?_
    refine J_aload_n (pc1 := 9) rfl (i := 0) rfl dX2_toWin_8 rfl ?_
    refine J_get (pc1 := 12) (j := 4) inUX2 (ci := 2) rfl (by decide) lf_X2_34 dX2_toWin_9 rfl hg.1 rfl ?_
    refine J_isub (pc1 := 13) dX2_toWin_12 rfl ?_
    refine J_goto (tgt := 25) dX2_toWin_13 rfl ?_
    exact J_iret rfl rfl dX2_toWin_25 (Nat.le_refl _) (Nat.le_refl _) (kI_mk (by unfold twF; (repeat' split) <;> omega))
set_option maxHeartbeats 400000 in
set_option maxRecDepth 20000 in
theorem c_X2_gainOf {S : pS} {g : Nat} {p : Int} {v0 v1 v3 v4 v5 v6 v7 v8 v9 : Value} (hg : S g = some (oO 2 [v0, v1, .int (iI p), v3, v4, v5, v6, v7, v8, v9])) (hp : 0 ≤ p ∧ p ≤ 1) {x : Int} : Ct yX2_gainOf cX2_gainOf 2 (Option.some FieldType.int) 0 0 0 [.ref g, .int (iI x)] S (kI (gaE p x) S) := by
  refine Ct.ofJ (by decide +kernel) (Nat.le_of_ble_eq_true rfl) ?_
  refine J_L (L1 := [some (.ref g), some (.int (iI x))]) rfl ?_
  refine J_aload_n (pc1 := 1) rfl (i := 0) rfl dX2_gainOf_0 rfl ?_
  refine J_get (pc1 := 4) (j := 2) inUX2 (ci := 2) rfl (by decide) lf_X2_28 dX2_gainOf_1 rfl hg rfl ?_
  refine J_if_ne (pc1 := 7) (tgt := 11) (by omega) (by omega) dX2_gainOf_4 rfl rfl (fun hc1 => ?_) (fun hc1 => ?_)
  · refine J_iconst (pc1 := 12) dX2_gainOf_11 rfl ?_
    exact J_iret rfl rfl dX2_gainOf_12 (Nat.le_refl _) (Nat.le_refl _) (kI_mk (by unfold gaE; (repeat' split) <;> omega))
  · refine J_iload_n (pc1 := 8) rfl (i := 1) rfl dX2_gainOf_7 rfl ?_
    refine J_goto (tgt := 12) dX2_gainOf_8 rfl ?_
    exact J_iret rfl rfl dX2_gainOf_12 (Nat.le_refl _) (Nat.le_refl _) (kI_mk (by unfold gaE; (repeat' split) <;> omega))
set_option maxHeartbeats 400000 in
set_option maxRecDepth 20000 in
theorem c_X2_takerOf {S : pS} {g z o : Nat} {f : Int → Int} (hg : IsG S g z o f) (ok : okF f) {b a : Int} (hb : -1000 ≤ b ∧ b ≤ 1000) (ha : -1000 ≤ a ∧ a ≤ 1000) : Ct yX2_takerOf cX2_takerOf 4 (Option.some FieldType.int) 0 0 0 [.ref g, .int (iI b), .int (iI a)] S (kI (tkF f b a) S) := by
  obtain ⟨o0, o1, o2, o3, o4, o5, o7, o9, o10, o12, o13, -⟩ := ok
  refine Ct.ofJ (by decide +kernel) (Nat.le_of_ble_eq_true rfl) ?_
  refine J_L (L1 := [some (.ref g), some (.int (iI b)), some (.int (iI a)), none]) rfl ?_
  refine J_iload_n (pc1 := 1) rfl (i := 1) rfl dX2_takerOf_0 rfl ?_
  refine J_iload_n (pc1 := 2) rfl (i := 2) rfl dX2_takerOf_1 rfl ?_
  refine J_icmp_gt (pc1 := 5) (tgt := 17) (by omega) (by omega) (by omega) (by omega) dX2_takerOf_2 rfl rfl (fun hc1 => ?_) (fun hc1 => ?_)
  · refine J_iconst (pc1 := 18) dX2_takerOf_17 rfl ?_
    refine J_goto (tgt := 22) dX2_takerOf_18 rfl ?_
    refine J_istore_n (pc1 := 23) (L1 := [some (.ref g), some (.int (iI b)), some (.int (iI a)), some (.int (iI 1))]) rfl (i := 3) dX2_takerOf_22 rfl (by decide) rfl rfl ?_
    refine J_iload_n (pc1 := 24) rfl (i := 3) rfl dX2_takerOf_23 rfl ?_
    refine J_if_eq (pc1 := 27) (tgt := 34) (by decide) (by decide) dX2_takerOf_24 rfl rfl (fun hc2 => ?_) (fun hc2 => ?_)
    · exact absurd hc2 (by decide)
    · refine J_aload_n (pc1 := 28) rfl (i := 0) rfl dX2_takerOf_27 rfl ?_
      refine J_get (pc1 := 31) (j := 5) inUX2 (ci := 2) rfl (by decide) lf_X2_37 dX2_takerOf_28 rfl hg.1 rfl ?_
      refine J_goto (tgt := 40) dX2_takerOf_31 rfl ?_
      exact J_iret rfl rfl dX2_takerOf_40 (Nat.le_refl _) (Nat.le_refl _) (kI_mk (by unfold tkF; (repeat' split) <;> omega))
  · refine J_iload_n (pc1 := 6) rfl (i := 1) rfl dX2_takerOf_5 rfl ?_
    refine J_iload_n (pc1 := 7) rfl (i := 2) rfl dX2_takerOf_6 rfl ?_
    refine J_icmp_ne (pc1 := 10) (tgt := 21) (by omega) (by omega) (by omega) (by omega) dX2_takerOf_7 rfl rfl (fun hc3 => ?_) (fun hc3 => ?_)
    · refine J_iconst (pc1 := 22) dX2_takerOf_21 rfl ?_
      refine J_istore_n (pc1 := 23) (L1 := [some (.ref g), some (.int (iI b)), some (.int (iI a)), some (.int (iI 0))]) rfl (i := 3) dX2_takerOf_22 rfl (by decide) rfl rfl ?_
      refine J_iload_n (pc1 := 24) rfl (i := 3) rfl dX2_takerOf_23 rfl ?_
      refine J_if_eq (pc1 := 27) (tgt := 34) (by decide) (by decide) dX2_takerOf_24 rfl rfl (fun hc4 => ?_) (fun hc4 => ?_)
      · refine J_iconst (pc1 := 35) dX2_takerOf_34 rfl ?_
        refine J_aload_n (pc1 := 36) rfl (i := 0) rfl dX2_takerOf_35 rfl ?_
        refine J_get (pc1 := 39) (j := 5) inUX2 (ci := 2) rfl (by decide) lf_X2_37 dX2_takerOf_36 rfl hg.1 rfl ?_
        refine J_isub (pc1 := 40) dX2_takerOf_39 rfl ?_
        exact J_iret rfl rfl dX2_takerOf_40 (Nat.le_refl _) (Nat.le_refl _) (kI_mk (by unfold tkF; (repeat' split) <;> omega))
      · exact absurd hc4 (by decide)
    · refine J_aload_n (pc1 := 11) rfl (i := 0) rfl dX2_takerOf_10 rfl ?_
      refine J_get (pc1 := 14) (j := 3) inUX2 (ci := 2) rfl (by decide) lf_X2_31 dX2_takerOf_11 rfl hg.1 rfl ?_
      refine J_if_ne (pc1 := 17) (tgt := 21) (by omega) (by omega) dX2_takerOf_14 rfl rfl (fun hc5 => ?_) (fun hc5 => ?_)
      · refine J_iconst (pc1 := 22) dX2_takerOf_21 rfl ?_
        refine J_istore_n (pc1 := 23) (L1 := [some (.ref g), some (.int (iI b)), some (.int (iI a)), some (.int (iI 0))]) rfl (i := 3) dX2_takerOf_22 rfl (by decide) rfl rfl ?_
        refine J_iload_n (pc1 := 24) rfl (i := 3) rfl dX2_takerOf_23 rfl ?_
        refine J_if_eq (pc1 := 27) (tgt := 34) (by decide) (by decide) dX2_takerOf_24 rfl rfl (fun hc6 => ?_) (fun hc6 => ?_)
        · refine J_iconst (pc1 := 35) dX2_takerOf_34 rfl ?_
          refine J_aload_n (pc1 := 36) rfl (i := 0) rfl dX2_takerOf_35 rfl ?_
          refine J_get (pc1 := 39) (j := 5) inUX2 (ci := 2) rfl (by decide) lf_X2_37 dX2_takerOf_36 rfl hg.1 rfl ?_
          refine J_isub (pc1 := 40) dX2_takerOf_39 rfl ?_
          exact J_iret rfl rfl dX2_takerOf_40 (Nat.le_refl _) (Nat.le_refl _) (kI_mk (by unfold tkF; (repeat' split) <;> omega))
        · exact absurd hc6 (by decide)
      · refine J_iconst (pc1 := 18) dX2_takerOf_17 rfl ?_
        refine J_goto (tgt := 22) dX2_takerOf_18 rfl ?_
        refine J_istore_n (pc1 := 23) (L1 := [some (.ref g), some (.int (iI b)), some (.int (iI a)), some (.int (iI 1))]) rfl (i := 3) dX2_takerOf_22 rfl (by decide) rfl rfl ?_
        refine J_iload_n (pc1 := 24) rfl (i := 3) rfl dX2_takerOf_23 rfl ?_
        refine J_if_eq (pc1 := 27) (tgt := 34) (by decide) (by decide) dX2_takerOf_24 rfl rfl (fun hc7 => ?_) (fun hc7 => ?_)
        · exact absurd hc7 (by decide)
        · refine J_aload_n (pc1 := 28) rfl (i := 0) rfl dX2_takerOf_27 rfl ?_
          refine J_get (pc1 := 31) (j := 5) inUX2 (ci := 2) rfl (by decide) lf_X2_37 dX2_takerOf_28 rfl hg.1 rfl ?_
          refine J_goto (tgt := 40) dX2_takerOf_31 rfl ?_
          exact J_iret rfl rfl dX2_takerOf_40 (Nat.le_refl _) (Nat.le_refl _) (kI_mk (by unfold tkF; (repeat' split) <;> omega))
set_option maxHeartbeats 400000 in
set_option maxRecDepth 20000 in
theorem c_X2_allows {S : pS} {g z o : Nat} {f : Int → Int} (hg : IsG S g z o f) (ok : okF f) {b a : Int} (hb : -1000 ≤ b ∧ b ≤ 1000) (ha : -1000 ≤ a ∧ a ≤ 1000) : Ct yX2_allows cX2_allows 3 (Option.some FieldType.boolean) 2 0 0 [.ref g, .int (iI b), .int (iI a)] S (kI (bZ (winF f = -1006 ∧ b ≤ moF f (f 5) ∧ a ≤ moF f (1 - f 5))) S) := by
  have q1 := bZ_lo (winE (f 0) (f 4) ≠ -1006)
  have q2 := bZ_hi (winE (f 0) (f 4) ≠ -1006)
  have q3 := moF_b (p := f 5) ok
  have q4 := moF_b (p := 1 - f 5) ok
  have ok0 := ok
  obtain ⟨o0, o1, o2, o3, o4, o5, o7, o9, o10, o12, o13, -⟩ := ok
  refine Ct.ofJ (by decide +kernel) (Nat.le_of_ble_eq_true rfl) ?_
  refine J_L (L1 := [some (.ref g), some (.int (iI b)), some (.int (iI a))]) rfl ?_
  refine J_aload_n (pc1 := 1) rfl (i := 0) rfl dX2_allows_0 rfl ?_
  refine J_callVI (pc1 := 4) (As := []) gv_X2_64 yv_X2_isOver rfl (c_X2_isOver hg.1 (by omega) (by omega)) dX2_allows_1 rfl hg.1 rfl rfl (by omega) (by decide) (Nat.zero_le _) (Nat.zero_le _) (Nat.le_of_ble_eq_true rfl) ?_
  refine J_if_ne (pc1 := 7) (tgt := 37) (bZ_lo _) (bZ_hi _) dX2_allows_4 rfl rfl (fun hc1 => ?_) (fun hc1 => ?_)
  · refine J_iconst (pc1 := 38) dX2_allows_37 rfl ?_
    exact J_iret rfl rfl dX2_allows_38 (Nat.le_refl _) (Nat.le_refl _) (kI_mk (by first | exact bZ_t ⟨Decidable.byContradiction (bZ_0 (by assumption)), by omega, by omega⟩ | exact bZ_f (fun q => by first | exact absurd q.1 (bZ_1 (by assumption)) | omega)))
  · refine J_iload_n (pc1 := 8) rfl (i := 1) rfl dX2_allows_7 rfl ?_
    refine J_aload_n (pc1 := 9) rfl (i := 0) rfl dX2_allows_8 rfl ?_
    refine J_aload_n (pc1 := 10) rfl (i := 0) rfl dX2_allows_9 rfl ?_
    refine J_get (pc1 := 13) (j := 5) inUX2 (ci := 2) rfl (by decide) lf_X2_37 dX2_allows_10 rfl hg.1 rfl ?_
    refine J_callVI (pc1 := 16) (As := [.int (iI (f 5))]) gv_X2_68 yv_X2_mostOf rfl (c_X2_mostOf hg (p := f 5) (by omega)) dX2_allows_13 rfl hg.1 rfl rfl (by omega) (by decide) (Nat.zero_le _) (Nat.zero_le _) (Nat.le_of_ble_eq_true rfl) ?_
    refine J_icmp_gt (pc1 := 19) (tgt := 37) (by omega) (by omega) (by omega) (by omega) dX2_allows_16 rfl rfl (fun hc2 => ?_) (fun hc2 => ?_)
    · refine J_iconst (pc1 := 38) dX2_allows_37 rfl ?_
      exact J_iret rfl rfl dX2_allows_38 (Nat.le_refl _) (Nat.le_refl _) (kI_mk (by first | exact bZ_t ⟨Decidable.byContradiction (bZ_0 (by assumption)), by omega, by omega⟩ | exact bZ_f (fun q => by first | exact absurd q.1 (bZ_1 (by assumption)) | omega)))
    · refine J_iload_n (pc1 := 20) rfl (i := 2) rfl dX2_allows_19 rfl ?_
      refine J_aload_n (pc1 := 21) rfl (i := 0) rfl dX2_allows_20 rfl ?_
      refine J_iconst (pc1 := 22) dX2_allows_21 rfl ?_
      refine J_aload_n (pc1 := 23) rfl (i := 0) rfl dX2_allows_22 rfl ?_
      refine J_get (pc1 := 26) (j := 5) inUX2 (ci := 2) rfl (by decide) lf_X2_37 dX2_allows_23 rfl hg.1 rfl ?_
      refine J_isub (pc1 := 27) dX2_allows_26 rfl ?_
      refine J_callVI (pc1 := 30) (As := [.int (iI (1 - (f 5)))]) gv_X2_68 yv_X2_mostOf rfl (c_X2_mostOf hg (p := 1 - (f 5)) (by omega)) dX2_allows_27 rfl hg.1 rfl rfl (by omega) (by decide) (Nat.zero_le _) (Nat.zero_le _) (Nat.le_of_ble_eq_true rfl) ?_
      refine J_icmp_gt (pc1 := 33) (tgt := 37) (by omega) (by omega) (by omega) (by omega) dX2_allows_30 rfl rfl (fun hc3 => ?_) (fun hc3 => ?_)
      · refine J_iconst (pc1 := 38) dX2_allows_37 rfl ?_
        exact J_iret rfl rfl dX2_allows_38 (Nat.le_refl _) (Nat.le_refl _) (kI_mk (by first | exact bZ_t ⟨Decidable.byContradiction (bZ_0 (by assumption)), by omega, by omega⟩ | exact bZ_f (fun q => by first | exact absurd q.1 (bZ_1 (by assumption)) | omega)))
      · refine J_iconst (pc1 := 34) dX2_allows_33 rfl ?_
        refine J_goto (tgt := 38) dX2_allows_34 rfl ?_
        exact J_iret rfl rfl dX2_allows_38 (Nat.le_refl _) (Nat.le_refl _) (kI_mk (by first | exact bZ_t ⟨Decidable.byContradiction (bZ_0 (by assumption)), by omega, by omega⟩ | exact bZ_f (fun q => by first | exact absurd q.1 (bZ_1 (by assumption)) | omega)))
set_option maxHeartbeats 400000 in
set_option maxRecDepth 20000 in
theorem c_X6_init {S : pS} {z : Nat} {b h p t w : Int} (hz : S z = some (sdO b h p t w)) : Ct yX6_init cX6_init 1 none 1 0 0 [.ref z] S (kN (pu S z (sdO 4 4 p t w))) := by
  refine Ct.ofJ (by decide +kernel) (Nat.le_of_ble_eq_true rfl) ?_
  refine J_L (L1 := [some (.ref z)]) rfl ?_
  refine J_aload_n (pc1 := 1) rfl (i := 0) rfl dX6_init_0 rfl ?_
  refine J_objInit (pc1 := 4) lm_X6_3 li_init_Object lc_init_Object dX6_init_1 rfl (by omega) (by decide) ?_
  refine J_aload_n (pc1 := 5) rfl (i := 0) rfl dX6_init_4 rfl ?_
  refine J_iconst (pc1 := 6) dX6_init_5 rfl ?_
  refine J_put (pc1 := 9) (ty := .int) (j := 0) (fs1 := [.int (iI 4), .int (iI h), .int (iI p), .int (iI t), .int (iI w)]) inUX6 (ci := 6) rfl (by decide) tyX6 tyX6_ok nmX6 rfl (by decide +kernel) lf_X6_9 dX6_init_6 rfl hz rfl (by rfl) (Nat.le_of_ble_eq_true rfl) rfl ?_
  refine J_aload_n (pc1 := 10) rfl (i := 0) rfl dX6_init_9 rfl ?_
  refine J_iconst (pc1 := 11) dX6_init_10 rfl ?_
  refine J_put (pc1 := 14) (ty := .int) (j := 1) (fs1 := [.int (iI 4), .int (iI 4), .int (iI p), .int (iI t), .int (iI w)]) inUX6 (ci := 6) rfl (by decide) tyX6 tyX6_ok nmX6 rfl (by decide +kernel) lf_X6_15 dX6_init_11 rfl (pu_self _ _ _) rfl (by rfl) (Nat.le_of_ble_eq_true rfl) rfl ?_
  rw [pu_pu]
  exact J_vret rfl dX6_init_14 (Nat.le_refl _) (Nat.le_refl _) (kN_mk rfl)
set_option maxHeartbeats 400000 in
set_option maxRecDepth 20000 in
theorem c_X6_startAnew {S : pS} {z : Nat} {b h p t w : Int} (hz : S z = some (sdO b h p t w)) : Ct yX6_startAnew cX6_startAnew 1 none 0 0 0 [.ref z] S (kN (pu S z (sdO b b 0 0 w))) := by
  refine Ct.ofJ (by decide +kernel) (Nat.le_of_ble_eq_true rfl) ?_
  refine J_L (L1 := [some (.ref z)]) rfl ?_
  refine J_aload_n (pc1 := 1) rfl (i := 0) rfl dX6_startAnew_0 rfl ?_
  refine J_aload_n (pc1 := 2) rfl (i := 0) rfl dX6_startAnew_1 rfl ?_
  refine J_get (pc1 := 5) (j := 0) inUX6 (ci := 6) rfl (by decide) lf_X6_9 dX6_startAnew_2 rfl hz rfl ?_
  refine J_put (pc1 := 8) (ty := .int) (j := 1) (fs1 := [.int (iI b), .int (iI b), .int (iI p), .int (iI t), .int (iI w)]) inUX6 (ci := 6) rfl (by decide) tyX6 tyX6_ok nmX6 rfl (by decide +kernel) lf_X6_15 dX6_startAnew_5 rfl hz rfl (by rfl) (Nat.le_of_ble_eq_true rfl) rfl ?_
  refine J_aload_n (pc1 := 9) rfl (i := 0) rfl dX6_startAnew_8 rfl ?_
  refine J_iconst (pc1 := 10) dX6_startAnew_9 rfl ?_
  refine J_put (pc1 := 13) (ty := .int) (j := 2) (fs1 := [.int (iI b), .int (iI b), .int (iI 0), .int (iI t), .int (iI w)]) inUX6 (ci := 6) rfl (by decide) tyX6 tyX6_ok nmX6 rfl (by decide +kernel) lf_X6_18 dX6_startAnew_10 rfl (pu_self _ _ _) rfl (by rfl) (Nat.le_of_ble_eq_true rfl) rfl ?_
  rw [pu_pu]
  refine J_aload_n (pc1 := 14) rfl (i := 0) rfl dX6_startAnew_13 rfl ?_
  refine J_iconst (pc1 := 15) dX6_startAnew_14 rfl ?_
  refine J_put (pc1 := 18) (ty := .int) (j := 3) (fs1 := [.int (iI b), .int (iI b), .int (iI 0), .int (iI 0), .int (iI w)]) inUX6 (ci := 6) rfl (by decide) tyX6 tyX6_ok nmX6 rfl (by decide +kernel) lf_X6_21 dX6_startAnew_15 rfl (pu_self _ _ _) rfl (by rfl) (Nat.le_of_ble_eq_true rfl) rfl ?_
  rw [pu_pu]
  exact J_vret rfl dX6_startAnew_18 (Nat.le_refl _) (Nat.le_refl _) (kN_mk rfl)
set_option maxHeartbeats 400000 in
set_option maxRecDepth 20000 in
theorem c_X6_copyFrom {S : pS} {z z2 : Nat} {b h p t w b2 h2 p2 t2 w2 : Int} (hz : S z = some (sdO b h p t w)) (hz2 : S z2 = some (sdO b2 h2 p2 t2 w2)) (hne : z2 ≠ z) : Ct yX6_copyFrom cX6_copyFrom 2 none 0 0 0 [.ref z, .ref z2] S (kN (pu S z (sdO b2 h2 p2 t2 w2))) := by
  refine Ct.ofJ (by decide +kernel) (Nat.le_of_ble_eq_true rfl) ?_
  refine J_L (L1 := [some (.ref z), some (.ref z2)]) rfl ?_
  refine J_aload_n (pc1 := 1) rfl (i := 0) rfl dX6_copyFrom_0 rfl ?_
  refine J_aload_n (pc1 := 2) rfl (i := 1) rfl dX6_copyFrom_1 rfl ?_
  refine J_get (pc1 := 5) (j := 0) inUX6 (ci := 6) rfl (by decide) lf_X6_9 dX6_copyFrom_2 rfl hz2 rfl ?_
  refine J_put (pc1 := 8) (ty := .int) (j := 0) (fs1 := [.int (iI b2), .int (iI h), .int (iI p), .int (iI t), .int (iI w)]) inUX6 (ci := 6) rfl (by decide) tyX6 tyX6_ok nmX6 rfl (by decide +kernel) lf_X6_9 dX6_copyFrom_5 rfl hz rfl (by rfl) (Nat.le_of_ble_eq_true rfl) rfl ?_
  refine J_aload_n (pc1 := 9) rfl (i := 0) rfl dX6_copyFrom_8 rfl ?_
  refine J_aload_n (pc1 := 10) rfl (i := 1) rfl dX6_copyFrom_9 rfl ?_
  refine J_get (pc1 := 13) (j := 1) inUX6 (ci := 6) rfl (by decide) lf_X6_15 dX6_copyFrom_10 rfl ((pu_ne _ _ hne).trans hz2) rfl ?_
  refine J_put (pc1 := 16) (ty := .int) (j := 1) (fs1 := [.int (iI b2), .int (iI h2), .int (iI p), .int (iI t), .int (iI w)]) inUX6 (ci := 6) rfl (by decide) tyX6 tyX6_ok nmX6 rfl (by decide +kernel) lf_X6_15 dX6_copyFrom_13 rfl (pu_self _ _ _) rfl (by rfl) (Nat.le_of_ble_eq_true rfl) rfl ?_
  rw [pu_pu]
  refine J_aload_n (pc1 := 17) rfl (i := 0) rfl dX6_copyFrom_16 rfl ?_
  refine J_aload_n (pc1 := 18) rfl (i := 1) rfl dX6_copyFrom_17 rfl ?_
  refine J_get (pc1 := 21) (j := 2) inUX6 (ci := 6) rfl (by decide) lf_X6_18 dX6_copyFrom_18 rfl ((pu_ne _ _ hne).trans hz2) rfl ?_
  refine J_put (pc1 := 24) (ty := .int) (j := 2) (fs1 := [.int (iI b2), .int (iI h2), .int (iI p2), .int (iI t), .int (iI w)]) inUX6 (ci := 6) rfl (by decide) tyX6 tyX6_ok nmX6 rfl (by decide +kernel) lf_X6_18 dX6_copyFrom_21 rfl (pu_self _ _ _) rfl (by rfl) (Nat.le_of_ble_eq_true rfl) rfl ?_
  rw [pu_pu]
  refine J_aload_n (pc1 := 25) rfl (i := 0) rfl dX6_copyFrom_24 rfl ?_
  refine J_aload_n (pc1 := 26) rfl (i := 1) rfl dX6_copyFrom_25 rfl ?_
  refine J_get (pc1 := 29) (j := 3) inUX6 (ci := 6) rfl (by decide) lf_X6_21 dX6_copyFrom_26 rfl ((pu_ne _ _ hne).trans hz2) rfl ?_
  refine J_put (pc1 := 32) (ty := .int) (j := 3) (fs1 := [.int (iI b2), .int (iI h2), .int (iI p2), .int (iI t2), .int (iI w)]) inUX6 (ci := 6) rfl (by decide) tyX6 tyX6_ok nmX6 rfl (by decide +kernel) lf_X6_21 dX6_copyFrom_29 rfl (pu_self _ _ _) rfl (by rfl) (Nat.le_of_ble_eq_true rfl) rfl ?_
  rw [pu_pu]
  refine J_aload_n (pc1 := 33) rfl (i := 0) rfl dX6_copyFrom_32 rfl ?_
  refine J_aload_n (pc1 := 34) rfl (i := 1) rfl dX6_copyFrom_33 rfl ?_
  refine J_get (pc1 := 37) (j := 4) inUX6 (ci := 6) rfl (by decide) lf_X6_24 dX6_copyFrom_34 rfl ((pu_ne _ _ hne).trans hz2) rfl ?_
  refine J_put (pc1 := 40) (ty := .int) (j := 4) (fs1 := [.int (iI b2), .int (iI h2), .int (iI p2), .int (iI t2), .int (iI w2)]) inUX6 (ci := 6) rfl (by decide) tyX6 tyX6_ok nmX6 rfl (by decide +kernel) lf_X6_24 dX6_copyFrom_37 rfl (pu_self _ _ _) rfl (by rfl) (Nat.le_of_ble_eq_true rfl) rfl ?_
  rw [pu_pu]
  exact J_vret rfl dX6_copyFrom_40 (Nat.le_refl _) (Nat.le_refl _) (kN_mk rfl)
/-- a game's cells hold another row; nothing else has changed -/
def UG (S : pS) (g z o : Nat) (f : Int → Int) (T : pS) : Prop := IsG T g z o f ∧ ∀ x, x ≠ g → x ≠ z → x ≠ o → T x = S x
theorem gmO_c {f : Int → Int} {z o : Nat} {a0 a1 a2 a3 a4 a5 a6 a7 : Int} (h0 : a0 = f 0) (h1 : a1 = f 1) (h2 : a2 = f 2) (h3 : a3 = f 3) (h4 : a4 = f 4) (h5 : a5 = f 5) (h6 : a6 = f 6) (h7 : a7 = f 17) : some (oO 2 [.int (iI a0), .int (iI a1), .int (iI a2), .int (iI a3), .int (iI a4), .int (iI a5), .int (iI a6), .int (iI a7), .ref z, .ref o]) = some (gameO f z o) := by rw [h0, h1, h2, h3, h4, h5, h6, h7]
theorem sdO_c {b h p t w b2 h2 p2 t2 w2 : Int} (e1 : b = b2) (e2 : h = h2) (e3 : p = p2) (e4 : t = t2) (e5 : w = w2) : some (sdO b h p t w) = some (sdO b2 h2 p2 t2 w2) := by rw [e1, e2, e3, e4, e5]
def newF (f : Int → Int) : Int → Int := fun j => if j = 4 then 0 else if j = 5 then 0 else if j = 6 then 0 else if j = 17 then 0 else if j = 7 then f 9 else if j = 8 then f 10 else if j = 11 then 0 else if j = 12 then 0 else if j = 13 then 0 else if j = 14 then 0 else f j
def zeF : Int → Int := fun j => if j = 0 then 2 else if j = 7 then 4 else if j = 8 then 4 else if j = 9 then 4 else if j = 10 then 4 else 0
set_option maxHeartbeats 400000 in
set_option maxRecDepth 20000 in
theorem c_X2_startAnew {S : pS} {g z o : Nat} {f : Int → Int} (hg : IsG S g z o f) : Ct yX2_startAnew cX2_startAnew 1 none 1 0 0 [.ref g] S (kNS (UG S g z o (newF f))) := by
  refine Ct.ofJ (by decide +kernel) (Nat.le_of_ble_eq_true rfl) ?_
  refine J_L (L1 := [some (.ref g)]) rfl ?_
  refine J_aload_n (pc1 := 1) rfl (i := 0) rfl dX2_startAnew_0 rfl ?_
  refine J_iconst (pc1 := 2) dX2_startAnew_1 rfl ?_
  refine J_put (pc1 := 5) (ty := .int) (j := 4) (fs1 := [.int (iI (f 0)), .int (iI (f 1)), .int (iI (f 2)), .int (iI (f 3)), .int (iI 0), .int (iI (f 5)), .int (iI (f 6)), .int (iI (f 17)), .ref z, .ref o]) inUX2 (ci := 2) rfl (by decide) tyX2 tyX2_ok nmX2 rfl (by decide +kernel) lf_X2_34 dX2_startAnew_2 rfl hg.1 rfl (by rfl) (Nat.le_of_ble_eq_true rfl) rfl ?_
  refine J_aload_n (pc1 := 6) rfl (i := 0) rfl dX2_startAnew_5 rfl ?_
  refine J_iconst (pc1 := 7) dX2_startAnew_6 rfl ?_
  refine J_put (pc1 := 10) (ty := .int) (j := 5) (fs1 := [.int (iI (f 0)), .int (iI (f 1)), .int (iI (f 2)), .int (iI (f 3)), .int (iI 0), .int (iI 0), .int (iI (f 6)), .int (iI (f 17)), .ref z, .ref o]) inUX2 (ci := 2) rfl (by decide) tyX2 tyX2_ok nmX2 rfl (by decide +kernel) lf_X2_37 dX2_startAnew_7 rfl (pu_self _ _ _) rfl (by rfl) (Nat.le_of_ble_eq_true rfl) rfl ?_
  rw [pu_pu]
  refine J_aload_n (pc1 := 11) rfl (i := 0) rfl dX2_startAnew_10 rfl ?_
  refine J_iconst (pc1 := 12) dX2_startAnew_11 rfl ?_
  refine J_put (pc1 := 15) (ty := .int) (j := 6) (fs1 := [.int (iI (f 0)), .int (iI (f 1)), .int (iI (f 2)), .int (iI (f 3)), .int (iI 0), .int (iI 0), .int (iI 0), .int (iI (f 17)), .ref z, .ref o]) inUX2 (ci := 2) rfl (by decide) tyX2 tyX2_ok nmX2 rfl (by decide +kernel) lf_X2_40 dX2_startAnew_12 rfl (pu_self _ _ _) rfl (by rfl) (Nat.le_of_ble_eq_true rfl) rfl ?_
  rw [pu_pu]
  refine J_aload_n (pc1 := 16) rfl (i := 0) rfl dX2_startAnew_15 rfl ?_
  refine J_iconst (pc1 := 17) dX2_startAnew_16 rfl ?_
  refine J_put (pc1 := 20) (ty := .int) (j := 7) (fs1 := [.int (iI (f 0)), .int (iI (f 1)), .int (iI (f 2)), .int (iI (f 3)), .int (iI 0), .int (iI 0), .int (iI 0), .int (iI 0), .ref z, .ref o]) inUX2 (ci := 2) rfl (by decide) tyX2 tyX2_ok nmX2 rfl (by decide +kernel) lf_X2_43 dX2_startAnew_17 rfl (pu_self _ _ _) rfl (by rfl) (Nat.le_of_ble_eq_true rfl) rfl ?_
  rw [pu_pu]
  refine J_aload_n (pc1 := 21) rfl (i := 0) rfl dX2_startAnew_20 rfl ?_
  refine J_get (pc1 := 24) (j := 8) inUX2 (ci := 2) rfl (by decide) lf_X2_18 dX2_startAnew_21 rfl (pu_self _ _ _) rfl ?_
  refine J_callVN (pc1 := 27) (As := []) gv_X2_50 yv_X6_startAnew rfl (c_X6_startAnew ((pu_ne _ _ (ne_ci hg.2.1 hg.1 (by decide))).trans hg.2.1)) dX2_startAnew_24 rfl ((pu_ne _ _ (ne_ci hg.2.1 hg.1 (by decide))).trans hg.2.1) rfl rfl (by omega) (by decide) (Nat.zero_le _) (Nat.zero_le _) (Nat.le_of_ble_eq_true rfl) ?_
  refine J_aload_n (pc1 := 28) rfl (i := 0) rfl dX2_startAnew_27 rfl ?_
  refine J_get (pc1 := 31) (j := 9) inUX2 (ci := 2) rfl (by decide) lf_X2_22 dX2_startAnew_28 rfl ((pu_ne _ _ (ne_ci hg.1 hg.2.1 (by decide))).trans (pu_self _ _ _)) rfl ?_
  refine J_callVN (pc1 := 34) (As := []) gv_X2_50 yv_X6_startAnew rfl (c_X6_startAnew ((pu_ne _ _ (Ne.symm hg.2.2.2)).trans ((pu_ne _ _ (ne_ci hg.2.2.1 hg.1 (by decide))).trans hg.2.2.1))) dX2_startAnew_31 rfl ((pu_ne _ _ (Ne.symm hg.2.2.2)).trans ((pu_ne _ _ (ne_ci hg.2.2.1 hg.1 (by decide))).trans hg.2.2.1)) rfl rfl (by omega) (by decide) (Nat.zero_le _) (Nat.zero_le _) (Nat.le_of_ble_eq_true rfl) ?_
  exact J_vret rfl dX2_startAnew_34 (Nat.le_refl _) (Nat.le_refl _) (⟨rfl, ⟨⟨(((pu_ne _ _ (ne_ci hg.1 hg.2.2.1 (by decide))).trans ((pu_ne _ _ (ne_ci hg.1 hg.2.1 (by decide))).trans (pu_self _ _ _))).trans (gmO_c (by rfl) (by rfl) (by rfl) (by rfl) (by rfl) (by rfl) (by rfl) (by rfl))), (((pu_ne _ _ hg.2.2.2).trans (pu_self _ _ _)).trans (sdO_c (by rfl) (by rfl) (by rfl) (by rfl) (by rfl))), ((pu_self _ _ _).trans (sdO_c (by rfl) (by rfl) (by rfl) (by rfl) (by rfl))), hg.2.2.2⟩, fun x h1 h2 h3 => ((pu_ne _ _ h3).trans ((pu_ne _ _ h2).trans (pu_ne _ _ h1)))⟩⟩)
set_option maxHeartbeats 1000000 in
set_option maxRecDepth 20000 in
theorem c_X2_copyFrom {S : pS} {g z o : Nat} {f : Int → Int} (hg : IsG S g z o f) {h z2 o2 : Nat} {f2 : Int → Int} (hh : IsG S h z2 o2 f2) (hgh : h ≠ g) (q1 : z2 ≠ z) (q2 : z2 ≠ o) (q3 : o2 ≠ z) (q4 : o2 ≠ o) : Ct yX2_copyFrom cX2_copyFrom 2 none 1 0 0 [.ref g, .ref h] S (kNS (UG S g z o f2)) := by
  refine Ct.ofJ (by decide +kernel) (Nat.le_of_ble_eq_true rfl) ?_
  refine J_L (L1 := [some (.ref g), some (.ref h)]) rfl ?_
  refine J_aload_n (pc1 := 1) rfl (i := 0) rfl dX2_copyFrom_0 rfl ?_
  refine J_aload_n (pc1 := 2) rfl (i := 1) rfl dX2_copyFrom_1 rfl ?_
  refine J_get (pc1 := 5) (j := 0) inUX2 (ci := 2) rfl (by decide) lf_X2_9 dX2_copyFrom_2 rfl hh.1 rfl ?_
  refine J_put (pc1 := 8) (ty := .int) (j := 0) (fs1 := [.int (iI (f2 0)), .int (iI (f 1)), .int (iI (f 2)), .int (iI (f 3)), .int (iI (f 4)), .int (iI (f 5)), .int (iI (f 6)), .int (iI (f 17)), .ref z, .ref o]) inUX2 (ci := 2) rfl (by decide) tyX2 tyX2_ok nmX2 rfl (by decide +kernel) lf_X2_9 dX2_copyFrom_5 rfl hg.1 rfl (by rfl) (Nat.le_of_ble_eq_true rfl) rfl ?_
  refine J_aload_n (pc1 := 9) rfl (i := 0) rfl dX2_copyFrom_8 rfl ?_
  refine J_aload_n (pc1 := 10) rfl (i := 1) rfl dX2_copyFrom_9 rfl ?_
  refine J_get (pc1 := 13) (j := 1) inUX2 (ci := 2) rfl (by decide) lf_X2_25 dX2_copyFrom_10 rfl ((pu_ne _ _ hgh).trans hh.1) rfl ?_
  refine J_put (pc1 := 16) (ty := .int) (j := 1) (fs1 := [.int (iI (f2 0)), .int (iI (f2 1)), .int (iI (f 2)), .int (iI (f 3)), .int (iI (f 4)), .int (iI (f 5)), .int (iI (f 6)), .int (iI (f 17)), .ref z, .ref o]) inUX2 (ci := 2) rfl (by decide) tyX2 tyX2_ok nmX2 rfl (by decide +kernel) lf_X2_25 dX2_copyFrom_13 rfl (pu_self _ _ _) rfl (by rfl) (Nat.le_of_ble_eq_true rfl) rfl ?_
  rw [pu_pu]
  refine J_aload_n (pc1 := 17) rfl (i := 0) rfl dX2_copyFrom_16 rfl ?_
  refine J_aload_n (pc1 := 18) rfl (i := 1) rfl dX2_copyFrom_17 rfl ?_
  refine J_get (pc1 := 21) (j := 2) inUX2 (ci := 2) rfl (by decide) lf_X2_28 dX2_copyFrom_18 rfl ((pu_ne _ _ hgh).trans hh.1) rfl ?_
  refine J_put (pc1 := 24) (ty := .int) (j := 2) (fs1 := [.int (iI (f2 0)), .int (iI (f2 1)), .int (iI (f2 2)), .int (iI (f 3)), .int (iI (f 4)), .int (iI (f 5)), .int (iI (f 6)), .int (iI (f 17)), .ref z, .ref o]) inUX2 (ci := 2) rfl (by decide) tyX2 tyX2_ok nmX2 rfl (by decide +kernel) lf_X2_28 dX2_copyFrom_21 rfl (pu_self _ _ _) rfl (by rfl) (Nat.le_of_ble_eq_true rfl) rfl ?_
  rw [pu_pu]
  refine J_aload_n (pc1 := 25) rfl (i := 0) rfl dX2_copyFrom_24 rfl ?_
  refine J_aload_n (pc1 := 26) rfl (i := 1) rfl dX2_copyFrom_25 rfl ?_
  refine J_get (pc1 := 29) (j := 3) inUX2 (ci := 2) rfl (by decide) lf_X2_31 dX2_copyFrom_26 rfl ((pu_ne _ _ hgh).trans hh.1) rfl ?_
  refine J_put (pc1 := 32) (ty := .int) (j := 3) (fs1 := [.int (iI (f2 0)), .int (iI (f2 1)), .int (iI (f2 2)), .int (iI (f2 3)), .int (iI (f 4)), .int (iI (f 5)), .int (iI (f 6)), .int (iI (f 17)), .ref z, .ref o]) inUX2 (ci := 2) rfl (by decide) tyX2 tyX2_ok nmX2 rfl (by decide +kernel) lf_X2_31 dX2_copyFrom_29 rfl (pu_self _ _ _) rfl (by rfl) (Nat.le_of_ble_eq_true rfl) rfl ?_
  rw [pu_pu]
  refine J_aload_n (pc1 := 33) rfl (i := 0) rfl dX2_copyFrom_32 rfl ?_
  refine J_aload_n (pc1 := 34) rfl (i := 1) rfl dX2_copyFrom_33 rfl ?_
  refine J_get (pc1 := 37) (j := 4) inUX2 (ci := 2) rfl (by decide) lf_X2_34 dX2_copyFrom_34 rfl ((pu_ne _ _ hgh).trans hh.1) rfl ?_
  refine J_put (pc1 := 40) (ty := .int) (j := 4) (fs1 := [.int (iI (f2 0)), .int (iI (f2 1)), .int (iI (f2 2)), .int (iI (f2 3)), .int (iI (f2 4)), .int (iI (f 5)), .int (iI (f 6)), .int (iI (f 17)), .ref z, .ref o]) inUX2 (ci := 2) rfl (by decide) tyX2 tyX2_ok nmX2 rfl (by decide +kernel) lf_X2_34 dX2_copyFrom_37 rfl (pu_self _ _ _) rfl (by rfl) (Nat.le_of_ble_eq_true rfl) rfl ?_
  rw [pu_pu]
  refine J_aload_n (pc1 := 41) rfl (i := 0) rfl dX2_copyFrom_40 rfl ?_
  refine J_aload_n (pc1 := 42) rfl (i := 1) rfl dX2_copyFrom_41 rfl ?_
  refine J_get (pc1 := 45) (j := 5) inUX2 (ci := 2) rfl (by decide) lf_X2_37 dX2_copyFrom_42 rfl ((pu_ne _ _ hgh).trans hh.1) rfl ?_
  refine J_put (pc1 := 48) (ty := .int) (j := 5) (fs1 := [.int (iI (f2 0)), .int (iI (f2 1)), .int (iI (f2 2)), .int (iI (f2 3)), .int (iI (f2 4)), .int (iI (f2 5)), .int (iI (f 6)), .int (iI (f 17)), .ref z, .ref o]) inUX2 (ci := 2) rfl (by decide) tyX2 tyX2_ok nmX2 rfl (by decide +kernel) lf_X2_37 dX2_copyFrom_45 rfl (pu_self _ _ _) rfl (by rfl) (Nat.le_of_ble_eq_true rfl) rfl ?_
  rw [pu_pu]
  refine J_aload_n (pc1 := 49) rfl (i := 0) rfl dX2_copyFrom_48 rfl ?_
  refine J_aload_n (pc1 := 50) rfl (i := 1) rfl dX2_copyFrom_49 rfl ?_
  refine J_get (pc1 := 53) (j := 6) inUX2 (ci := 2) rfl (by decide) lf_X2_40 dX2_copyFrom_50 rfl ((pu_ne _ _ hgh).trans hh.1) rfl ?_
  refine J_put (pc1 := 56) (ty := .int) (j := 6) (fs1 := [.int (iI (f2 0)), .int (iI (f2 1)), .int (iI (f2 2)), .int (iI (f2 3)), .int (iI (f2 4)), .int (iI (f2 5)), .int (iI (f2 6)), .int (iI (f 17)), .ref z, .ref o]) inUX2 (ci := 2) rfl (by decide) tyX2 tyX2_ok nmX2 rfl (by decide +kernel) lf_X2_40 dX2_copyFrom_53 rfl (pu_self _ _ _) rfl (by rfl) (Nat.le_of_ble_eq_true rfl) rfl ?_
  rw [pu_pu]
  refine J_aload_n (pc1 := 57) rfl (i := 0) rfl dX2_copyFrom_56 rfl ?_
  refine J_aload_n (pc1 := 58) rfl (i := 1) rfl dX2_copyFrom_57 rfl ?_
  refine J_get (pc1 := 61) (j := 7) inUX2 (ci := 2) rfl (by decide) lf_X2_43 dX2_copyFrom_58 rfl ((pu_ne _ _ hgh).trans hh.1) rfl ?_
  refine J_put (pc1 := 64) (ty := .int) (j := 7) (fs1 := [.int (iI (f2 0)), .int (iI (f2 1)), .int (iI (f2 2)), .int (iI (f2 3)), .int (iI (f2 4)), .int (iI (f2 5)), .int (iI (f2 6)), .int (iI (f2 17)), .ref z, .ref o]) inUX2 (ci := 2) rfl (by decide) tyX2 tyX2_ok nmX2 rfl (by decide +kernel) lf_X2_43 dX2_copyFrom_61 rfl (pu_self _ _ _) rfl (by rfl) (Nat.le_of_ble_eq_true rfl) rfl ?_
  rw [pu_pu]
  refine J_aload_n (pc1 := 65) rfl (i := 0) rfl dX2_copyFrom_64 rfl ?_
  refine J_get (pc1 := 68) (j := 8) inUX2 (ci := 2) rfl (by decide) lf_X2_18 dX2_copyFrom_65 rfl (pu_self _ _ _) rfl ?_
  refine J_aload_n (pc1 := 69) rfl (i := 1) rfl dX2_copyFrom_68 rfl ?_
  refine J_get (pc1 := 72) (j := 8) inUX2 (ci := 2) rfl (by decide) lf_X2_18 dX2_copyFrom_69 rfl ((pu_ne _ _ hgh).trans hh.1) rfl ?_
  refine J_callVN (pc1 := 75) (As := [.ref z2]) gv_X2_46 yv_X6_copyFrom rfl (c_X6_copyFrom ((pu_ne _ _ (ne_ci hg.2.1 hg.1 (by decide))).trans hg.2.1) ((pu_ne _ _ (ne_ci hh.2.1 hg.1 (by decide))).trans hh.2.1) q1) dX2_copyFrom_72 rfl ((pu_ne _ _ (ne_ci hg.2.1 hg.1 (by decide))).trans hg.2.1) rfl rfl (by omega) (by decide) (Nat.zero_le _) (Nat.zero_le _) (Nat.le_of_ble_eq_true rfl) ?_
  refine J_aload_n (pc1 := 76) rfl (i := 0) rfl dX2_copyFrom_75 rfl ?_
  refine J_get (pc1 := 79) (j := 9) inUX2 (ci := 2) rfl (by decide) lf_X2_22 dX2_copyFrom_76 rfl ((pu_ne _ _ (ne_ci hg.1 hg.2.1 (by decide))).trans (pu_self _ _ _)) rfl ?_
  refine J_aload_n (pc1 := 80) rfl (i := 1) rfl dX2_copyFrom_79 rfl ?_
  refine J_get (pc1 := 83) (j := 9) inUX2 (ci := 2) rfl (by decide) lf_X2_22 dX2_copyFrom_80 rfl ((pu_ne _ _ (ne_ci hh.1 hg.2.1 (by decide))).trans ((pu_ne _ _ hgh).trans hh.1)) rfl ?_
  refine J_callVN (pc1 := 86) (As := [.ref o2]) gv_X2_46 yv_X6_copyFrom rfl (c_X6_copyFrom ((pu_ne _ _ (Ne.symm hg.2.2.2)).trans ((pu_ne _ _ (ne_ci hg.2.2.1 hg.1 (by decide))).trans hg.2.2.1)) ((pu_ne _ _ q3).trans ((pu_ne _ _ (ne_ci hh.2.2.1 hg.1 (by decide))).trans hh.2.2.1)) q4) dX2_copyFrom_83 rfl ((pu_ne _ _ (Ne.symm hg.2.2.2)).trans ((pu_ne _ _ (ne_ci hg.2.2.1 hg.1 (by decide))).trans hg.2.2.1)) rfl rfl (by omega) (by decide) (Nat.zero_le _) (Nat.zero_le _) (Nat.le_of_ble_eq_true rfl) ?_
  exact J_vret rfl dX2_copyFrom_86 (Nat.le_refl _) (Nat.le_refl _) (⟨rfl, ⟨⟨(((pu_ne _ _ (ne_ci hg.1 hg.2.2.1 (by decide))).trans ((pu_ne _ _ (ne_ci hg.1 hg.2.1 (by decide))).trans (pu_self _ _ _))).trans (gmO_c (by rfl) (by rfl) (by rfl) (by rfl) (by rfl) (by rfl) (by rfl) (by rfl))), (((pu_ne _ _ hg.2.2.2).trans (pu_self _ _ _)).trans (sdO_c (by rfl) (by rfl) (by rfl) (by rfl) (by rfl))), ((pu_self _ _ _).trans (sdO_c (by rfl) (by rfl) (by rfl) (by rfl) (by rfl))), hg.2.2.2⟩, fun x h1 h2 h3 => ((pu_ne _ _ h3).trans ((pu_ne _ _ h2).trans (pu_ne _ _ h1)))⟩⟩)
set_option maxHeartbeats 400000 in
set_option maxRecDepth 20000 in
theorem c_X2_changeSetting {S : pS} {g z o : Nat} {f : Int → Int} (hg : IsG S g z o f) {k v : Int} (hk : 0 ≤ k ∧ k ≤ 3) : Ct yX2_changeSetting cX2_changeSetting 3 none 0 0 0 [.ref g, .int (iI k), .int (iI v)] S (kNS (UG S g z o (uZ f k v))) := by
  refine Ct.ofJ (by decide +kernel) (Nat.le_of_ble_eq_true rfl) ?_
  refine J_L (L1 := [some (.ref g), some (.int (iI k)), some (.int (iI v))]) rfl ?_
  refine J_iload_n (pc1 := 1) rfl (i := 1) rfl dX2_changeSetting_0 rfl ?_
  rcases (show k = 0 ∨ k = 1 ∨ k = 2 ∨ (k < 0 ∨ 2 < k) by omega) with hs1 | hs1 | hs1 | hs1
  · refine J_tableIn (tgt := 28) (by omega) (by omega) dX2_changeSetting_1 (by omega) (by omega) (by rw [hs1]; rfl) rfl ?_
    refine J_aload_n (pc1 := 29) rfl (i := 0) rfl dX2_changeSetting_28 rfl ?_
    refine J_iload_n (pc1 := 30) rfl (i := 2) rfl dX2_changeSetting_29 rfl ?_
    refine J_put (pc1 := 33) (ty := .int) (j := 0) (fs1 := [.int (iI v), .int (iI (f 1)), .int (iI (f 2)), .int (iI (f 3)), .int (iI (f 4)), .int (iI (f 5)), .int (iI (f 6)), .int (iI (f 17)), .ref z, .ref o]) inUX2 (ci := 2) rfl (by decide) tyX2 tyX2_ok nmX2 rfl (by decide +kernel) lf_X2_9 dX2_changeSetting_30 rfl hg.1 rfl (by rfl) (Nat.le_of_ble_eq_true rfl) rfl ?_
    refine J_goto (tgt := 57) dX2_changeSetting_33 rfl ?_
    exact J_vret rfl dX2_changeSetting_57 (Nat.le_refl _) (Nat.le_refl _) (⟨rfl, ⟨⟨((pu_self _ _ _).trans (gmO_c (by unfold uZ; first | (rw [hs1]; rfl) | (rw [show k = 3 by omega]; rfl)) (by unfold uZ; first | (rw [hs1]; rfl) | (rw [show k = 3 by omega]; rfl)) (by unfold uZ; first | (rw [hs1]; rfl) | (rw [show k = 3 by omega]; rfl)) (by unfold uZ; first | (rw [hs1]; rfl) | (rw [show k = 3 by omega]; rfl)) (by unfold uZ; first | (rw [hs1]; rfl) | (rw [show k = 3 by omega]; rfl)) (by unfold uZ; first | (rw [hs1]; rfl) | (rw [show k = 3 by omega]; rfl)) (by unfold uZ; first | (rw [hs1]; rfl) | (rw [show k = 3 by omega]; rfl)) (by unfold uZ; first | (rw [hs1]; rfl) | (rw [show k = 3 by omega]; rfl)))), (((pu_ne _ _ (ne_ci hg.2.1 hg.1 (by decide))).trans hg.2.1).trans (sdO_c (by unfold uZ; first | (rw [hs1]; rfl) | (rw [show k = 3 by omega]; rfl)) (by unfold uZ; first | (rw [hs1]; rfl) | (rw [show k = 3 by omega]; rfl)) (by unfold uZ; first | (rw [hs1]; rfl) | (rw [show k = 3 by omega]; rfl)) (by unfold uZ; first | (rw [hs1]; rfl) | (rw [show k = 3 by omega]; rfl)) (by unfold uZ; first | (rw [hs1]; rfl) | (rw [show k = 3 by omega]; rfl)))), (((pu_ne _ _ (ne_ci hg.2.2.1 hg.1 (by decide))).trans hg.2.2.1).trans (sdO_c (by unfold uZ; first | (rw [hs1]; rfl) | (rw [show k = 3 by omega]; rfl)) (by unfold uZ; first | (rw [hs1]; rfl) | (rw [show k = 3 by omega]; rfl)) (by unfold uZ; first | (rw [hs1]; rfl) | (rw [show k = 3 by omega]; rfl)) (by unfold uZ; first | (rw [hs1]; rfl) | (rw [show k = 3 by omega]; rfl)) (by unfold uZ; first | (rw [hs1]; rfl) | (rw [show k = 3 by omega]; rfl)))), hg.2.2.2⟩, fun x h1 h2 h3 => (pu_ne _ _ h1)⟩⟩)
  · refine J_tableIn (tgt := 36) (by omega) (by omega) dX2_changeSetting_1 (by omega) (by omega) (by rw [hs1]; rfl) rfl ?_
    refine J_aload_n (pc1 := 37) rfl (i := 0) rfl dX2_changeSetting_36 rfl ?_
    refine J_iload_n (pc1 := 38) rfl (i := 2) rfl dX2_changeSetting_37 rfl ?_
    refine J_put (pc1 := 41) (ty := .int) (j := 1) (fs1 := [.int (iI (f 0)), .int (iI v), .int (iI (f 2)), .int (iI (f 3)), .int (iI (f 4)), .int (iI (f 5)), .int (iI (f 6)), .int (iI (f 17)), .ref z, .ref o]) inUX2 (ci := 2) rfl (by decide) tyX2 tyX2_ok nmX2 rfl (by decide +kernel) lf_X2_25 dX2_changeSetting_38 rfl hg.1 rfl (by rfl) (Nat.le_of_ble_eq_true rfl) rfl ?_
    refine J_goto (tgt := 57) dX2_changeSetting_41 rfl ?_
    exact J_vret rfl dX2_changeSetting_57 (Nat.le_refl _) (Nat.le_refl _) (⟨rfl, ⟨⟨((pu_self _ _ _).trans (gmO_c (by unfold uZ; first | (rw [hs1]; rfl) | (rw [show k = 3 by omega]; rfl)) (by unfold uZ; first | (rw [hs1]; rfl) | (rw [show k = 3 by omega]; rfl)) (by unfold uZ; first | (rw [hs1]; rfl) | (rw [show k = 3 by omega]; rfl)) (by unfold uZ; first | (rw [hs1]; rfl) | (rw [show k = 3 by omega]; rfl)) (by unfold uZ; first | (rw [hs1]; rfl) | (rw [show k = 3 by omega]; rfl)) (by unfold uZ; first | (rw [hs1]; rfl) | (rw [show k = 3 by omega]; rfl)) (by unfold uZ; first | (rw [hs1]; rfl) | (rw [show k = 3 by omega]; rfl)) (by unfold uZ; first | (rw [hs1]; rfl) | (rw [show k = 3 by omega]; rfl)))), (((pu_ne _ _ (ne_ci hg.2.1 hg.1 (by decide))).trans hg.2.1).trans (sdO_c (by unfold uZ; first | (rw [hs1]; rfl) | (rw [show k = 3 by omega]; rfl)) (by unfold uZ; first | (rw [hs1]; rfl) | (rw [show k = 3 by omega]; rfl)) (by unfold uZ; first | (rw [hs1]; rfl) | (rw [show k = 3 by omega]; rfl)) (by unfold uZ; first | (rw [hs1]; rfl) | (rw [show k = 3 by omega]; rfl)) (by unfold uZ; first | (rw [hs1]; rfl) | (rw [show k = 3 by omega]; rfl)))), (((pu_ne _ _ (ne_ci hg.2.2.1 hg.1 (by decide))).trans hg.2.2.1).trans (sdO_c (by unfold uZ; first | (rw [hs1]; rfl) | (rw [show k = 3 by omega]; rfl)) (by unfold uZ; first | (rw [hs1]; rfl) | (rw [show k = 3 by omega]; rfl)) (by unfold uZ; first | (rw [hs1]; rfl) | (rw [show k = 3 by omega]; rfl)) (by unfold uZ; first | (rw [hs1]; rfl) | (rw [show k = 3 by omega]; rfl)) (by unfold uZ; first | (rw [hs1]; rfl) | (rw [show k = 3 by omega]; rfl)))), hg.2.2.2⟩, fun x h1 h2 h3 => (pu_ne _ _ h1)⟩⟩)
  · refine J_tableIn (tgt := 44) (by omega) (by omega) dX2_changeSetting_1 (by omega) (by omega) (by rw [hs1]; rfl) rfl ?_
    refine J_aload_n (pc1 := 45) rfl (i := 0) rfl dX2_changeSetting_44 rfl ?_
    refine J_iload_n (pc1 := 46) rfl (i := 2) rfl dX2_changeSetting_45 rfl ?_
    refine J_put (pc1 := 49) (ty := .int) (j := 2) (fs1 := [.int (iI (f 0)), .int (iI (f 1)), .int (iI v), .int (iI (f 3)), .int (iI (f 4)), .int (iI (f 5)), .int (iI (f 6)), .int (iI (f 17)), .ref z, .ref o]) inUX2 (ci := 2) rfl (by decide) tyX2 tyX2_ok nmX2 rfl (by decide +kernel) lf_X2_28 dX2_changeSetting_46 rfl hg.1 rfl (by rfl) (Nat.le_of_ble_eq_true rfl) rfl ?_
    refine J_goto (tgt := 57) dX2_changeSetting_49 rfl ?_
    exact J_vret rfl dX2_changeSetting_57 (Nat.le_refl _) (Nat.le_refl _) (⟨rfl, ⟨⟨((pu_self _ _ _).trans (gmO_c (by unfold uZ; first | (rw [hs1]; rfl) | (rw [show k = 3 by omega]; rfl)) (by unfold uZ; first | (rw [hs1]; rfl) | (rw [show k = 3 by omega]; rfl)) (by unfold uZ; first | (rw [hs1]; rfl) | (rw [show k = 3 by omega]; rfl)) (by unfold uZ; first | (rw [hs1]; rfl) | (rw [show k = 3 by omega]; rfl)) (by unfold uZ; first | (rw [hs1]; rfl) | (rw [show k = 3 by omega]; rfl)) (by unfold uZ; first | (rw [hs1]; rfl) | (rw [show k = 3 by omega]; rfl)) (by unfold uZ; first | (rw [hs1]; rfl) | (rw [show k = 3 by omega]; rfl)) (by unfold uZ; first | (rw [hs1]; rfl) | (rw [show k = 3 by omega]; rfl)))), (((pu_ne _ _ (ne_ci hg.2.1 hg.1 (by decide))).trans hg.2.1).trans (sdO_c (by unfold uZ; first | (rw [hs1]; rfl) | (rw [show k = 3 by omega]; rfl)) (by unfold uZ; first | (rw [hs1]; rfl) | (rw [show k = 3 by omega]; rfl)) (by unfold uZ; first | (rw [hs1]; rfl) | (rw [show k = 3 by omega]; rfl)) (by unfold uZ; first | (rw [hs1]; rfl) | (rw [show k = 3 by omega]; rfl)) (by unfold uZ; first | (rw [hs1]; rfl) | (rw [show k = 3 by omega]; rfl)))), (((pu_ne _ _ (ne_ci hg.2.2.1 hg.1 (by decide))).trans hg.2.2.1).trans (sdO_c (by unfold uZ; first | (rw [hs1]; rfl) | (rw [show k = 3 by omega]; rfl)) (by unfold uZ; first | (rw [hs1]; rfl) | (rw [show k = 3 by omega]; rfl)) (by unfold uZ; first | (rw [hs1]; rfl) | (rw [show k = 3 by omega]; rfl)) (by unfold uZ; first | (rw [hs1]; rfl) | (rw [show k = 3 by omega]; rfl)) (by unfold uZ; first | (rw [hs1]; rfl) | (rw [show k = 3 by omega]; rfl)))), hg.2.2.2⟩, fun x h1 h2 h3 => (pu_ne _ _ h1)⟩⟩)
  · refine J_tableOut (tgt := 52) (by omega) (by omega) dX2_changeSetting_1 hs1 rfl ?_
    refine J_aload_n (pc1 := 53) rfl (i := 0) rfl dX2_changeSetting_52 rfl ?_
    refine J_iload_n (pc1 := 54) rfl (i := 2) rfl dX2_changeSetting_53 rfl ?_
    refine J_put (pc1 := 57) (ty := .int) (j := 3) (fs1 := [.int (iI (f 0)), .int (iI (f 1)), .int (iI (f 2)), .int (iI v), .int (iI (f 4)), .int (iI (f 5)), .int (iI (f 6)), .int (iI (f 17)), .ref z, .ref o]) inUX2 (ci := 2) rfl (by decide) tyX2 tyX2_ok nmX2 rfl (by decide +kernel) lf_X2_31 dX2_changeSetting_54 rfl hg.1 rfl (by rfl) (Nat.le_of_ble_eq_true rfl) rfl ?_
    exact J_vret rfl dX2_changeSetting_57 (Nat.le_refl _) (Nat.le_refl _) (⟨rfl, ⟨⟨((pu_self _ _ _).trans (gmO_c (by unfold uZ; first | (rw [hs1]; rfl) | (rw [show k = 3 by omega]; rfl)) (by unfold uZ; first | (rw [hs1]; rfl) | (rw [show k = 3 by omega]; rfl)) (by unfold uZ; first | (rw [hs1]; rfl) | (rw [show k = 3 by omega]; rfl)) (by unfold uZ; first | (rw [hs1]; rfl) | (rw [show k = 3 by omega]; rfl)) (by unfold uZ; first | (rw [hs1]; rfl) | (rw [show k = 3 by omega]; rfl)) (by unfold uZ; first | (rw [hs1]; rfl) | (rw [show k = 3 by omega]; rfl)) (by unfold uZ; first | (rw [hs1]; rfl) | (rw [show k = 3 by omega]; rfl)) (by unfold uZ; first | (rw [hs1]; rfl) | (rw [show k = 3 by omega]; rfl)))), (((pu_ne _ _ (ne_ci hg.2.1 hg.1 (by decide))).trans hg.2.1).trans (sdO_c (by unfold uZ; first | (rw [hs1]; rfl) | (rw [show k = 3 by omega]; rfl)) (by unfold uZ; first | (rw [hs1]; rfl) | (rw [show k = 3 by omega]; rfl)) (by unfold uZ; first | (rw [hs1]; rfl) | (rw [show k = 3 by omega]; rfl)) (by unfold uZ; first | (rw [hs1]; rfl) | (rw [show k = 3 by omega]; rfl)) (by unfold uZ; first | (rw [hs1]; rfl) | (rw [show k = 3 by omega]; rfl)))), (((pu_ne _ _ (ne_ci hg.2.2.1 hg.1 (by decide))).trans hg.2.2.1).trans (sdO_c (by unfold uZ; first | (rw [hs1]; rfl) | (rw [show k = 3 by omega]; rfl)) (by unfold uZ; first | (rw [hs1]; rfl) | (rw [show k = 3 by omega]; rfl)) (by unfold uZ; first | (rw [hs1]; rfl) | (rw [show k = 3 by omega]; rfl)) (by unfold uZ; first | (rw [hs1]; rfl) | (rw [show k = 3 by omega]; rfl)) (by unfold uZ; first | (rw [hs1]; rfl) | (rw [show k = 3 by omega]; rfl)))), hg.2.2.2⟩, fun x h1 h2 h3 => (pu_ne _ _ h1)⟩⟩)
theorem pu_none2 {S : pS} {a b : Nat} {e : pE} (h : pu S a e b = none) : S b = none := (pu_none h).1
set_option maxHeartbeats 400000 in
set_option maxRecDepth 20000 in
theorem c_X2_init {S : pS} {g : Nat} (hg : S g = some (oO 2 [.int (iI 0), .int (iI 0), .int (iI 0), .int (iI 0), .int (iI 0), .int (iI 0), .int (iI 0), .int (iI 0), .null, .null])) : Ct yX2_init cX2_init 1 none 2 2 10 [.ref g] S (kNS (fun T => ∃ z o, IsG T g z o zeF ∧ S z = none ∧ S o = none ∧ ∀ x, S x ≠ none → x ≠ g → T x = S x)) := by
  refine Ct.ofJ (by decide +kernel) (Nat.le_of_ble_eq_true rfl) ?_
  refine J_L (L1 := [some (.ref g)]) rfl ?_
  refine J_aload_n (pc1 := 1) rfl (i := 0) rfl dX2_init_0 rfl ?_
  refine J_objInit (pc1 := 4) lm_X2_3 li_init_Object lc_init_Object dX2_init_1 rfl (by omega) (by decide) ?_
  refine J_aload_n (pc1 := 5) rfl (i := 0) rfl dX2_init_4 rfl ?_
  refine J_iconst (pc1 := 6) dX2_init_5 rfl ?_
  refine J_put (pc1 := 9) (ty := .int) (j := 0) (fs1 := [.int (iI 2), .int (iI 0), .int (iI 0), .int (iI 0), .int (iI 0), .int (iI 0), .int (iI 0), .int (iI 0), .null, .null]) inUX2 (ci := 2) rfl (by decide) tyX2 tyX2_ok nmX2 rfl (by decide +kernel) lf_X2_9 dX2_init_6 rfl hg rfl (by rfl) (Nat.le_of_ble_eq_true rfl) rfl ?_
  refine J_aload_n (pc1 := 10) rfl (i := 0) rfl dX2_init_9 rfl ?_
  refine J_new (pc1 := 13) (fs := [.int (iI 0), .int (iI 0), .int (iI 0), .int (iI 0), .int (iI 0)]) inUX6 (ci := 6) rfl tyX6 tyX6_ok ll_X2_15 lt_X6 ln_X6 df_X6 dX2_init_10 rfl (by omega) (by omega) (fun q1 n1 => ?_)
  have e_g_q1 : g ≠ q1 := ne_N (pu_self _ _ _) n1
  refine J_dup (pc1 := 14) rfl dX2_init_13 rfl ?_
  refine J_callIN_N (pc1 := 17) (As := []) (good_C lc_X6_init) yv_X6_init ln_X6 (host := "BorrowedHours") (List.mem_of_getElem? (i := 1) rfl) li_X6_init (c_X6_init (pu_self _ _ _)) dX2_init_14 rfl rfl rfl (by omega) (by decide) (by omega) (by omega) (Nat.le_of_ble_eq_true rfl) ?_
  refine J_putF (pc1 := 20) (ty := (.object "BorrowedHours$Side")) (j := 8) (fs1 := [.int (iI 2), .int (iI 0), .int (iI 0), .int (iI 0), .int (iI 0), .int (iI 0), .int (iI 0), .int (iI 0), .ref q1, .null]) inUX2 (ci := 2) rfl (by decide) tyX2 tyX2_ok nmX2 rfl rfl rfl (by decide +kernel) lf_X2_18 dX2_init_17 rfl ((pu_ne _ _ e_g_q1).trans ((pu_ne _ _ e_g_q1).trans (pu_self _ _ _))) rfl (by rfl) (Nat.le_of_ble_eq_true rfl) rfl ?_
  refine J_aload_n (pc1 := 21) rfl (i := 0) rfl dX2_init_20 rfl ?_
  refine J_new (pc1 := 24) (fs := [.int (iI 0), .int (iI 0), .int (iI 0), .int (iI 0), .int (iI 0)]) inUX6 (ci := 6) rfl tyX6 tyX6_ok ll_X2_15 lt_X6 ln_X6 df_X6 dX2_init_21 rfl (by omega) (by omega) (fun q2 n2 => ?_)
  have e_g_q2 : g ≠ q2 := ne_N (pu_self _ _ _) n2
  have e_q1_q2 : q1 ≠ q2 := ne_N ((pu_ne _ _ (Ne.symm e_g_q1)).trans (pu_self _ _ _)) n2
  refine J_dup (pc1 := 25) rfl dX2_init_24 rfl ?_
  refine J_callIN_N (pc1 := 28) (As := []) (good_C lc_X6_init) yv_X6_init ln_X6 (host := "BorrowedHours") (List.mem_of_getElem? (i := 1) rfl) li_X6_init (c_X6_init (pu_self _ _ _)) dX2_init_25 rfl rfl rfl (by omega) (by decide) (by omega) (by omega) (Nat.le_of_ble_eq_true rfl) ?_
  refine J_putF (pc1 := 31) (ty := (.object "BorrowedHours$Side")) (j := 9) (fs1 := [.int (iI 2), .int (iI 0), .int (iI 0), .int (iI 0), .int (iI 0), .int (iI 0), .int (iI 0), .int (iI 0), .ref q1, .ref q2]) inUX2 (ci := 2) rfl (by decide) tyX2 tyX2_ok nmX2 rfl rfl rfl (by decide +kernel) lf_X2_22 dX2_init_28 rfl ((pu_ne _ _ e_g_q2).trans ((pu_ne _ _ e_g_q2).trans (pu_self _ _ _))) rfl (by rfl) (Nat.le_of_ble_eq_true rfl) rfl ?_
  exact J_vret rfl dX2_init_31 (by omega) (by omega) (⟨rfl, q1, q2, ⟨(pu_self _ _ _).trans (gmO_c rfl rfl rfl rfl rfl rfl rfl rfl), ((pu_ne _ _ (Ne.symm e_g_q1)).trans ((pu_ne _ _ e_q1_q2).trans ((pu_ne _ _ e_q1_q2).trans ((pu_ne _ _ (Ne.symm e_g_q1)).trans (pu_self _ _ _))))), ((pu_ne _ _ (Ne.symm e_g_q2)).trans (pu_self _ _ _)), e_q1_q2⟩, pu_none2 n1, pu_none2 (pu_none2 (pu_none2 (pu_none2 n2))), fun x h1 h2 => ((pu_ne _ _ h2).trans ((pu_ne _ _ (fun z9 => h1 (by rw [z9]; exact pu_none2 (pu_none2 (pu_none2 (pu_none2 n2)))))).trans ((pu_ne _ _ (fun z9 => h1 (by rw [z9]; exact pu_none2 (pu_none2 (pu_none2 (pu_none2 n2)))))).trans ((pu_ne _ _ h2).trans ((pu_ne _ _ (fun z9 => h1 (by rw [z9]; exact pu_none2 n1))).trans ((pu_ne _ _ (fun z9 => h1 (by rw [z9]; exact pu_none2 n1))).trans (pu_ne _ _ h2)))))))⟩)
/-- a round: who takes it, for what, and the row behind it -/
def prF (f : Int → Int) (b a : Int) : Int := if tkF f b a = f 5 then b else a
def hdF (f : Int → Int) (b a : Int) : Int := f 4 + (if tkF f b a = 0 then 1 else -1)
def wnF (f : Int → Int) (b a : Int) : Int := if winE (f 0) (hdF f b a) = -1006 then 0 else 1
def plF (f : Int → Int) (b a : Int) : Int → Int := fun j => if j = 4 then hdF f b a else if j = 5 then 1 - f 5 else if j = 6 then f 6 + 1 else if j = 17 then f 17 + (prF f b a - gaF f (prF f b a)) else if j = 7 + tkF f b a then f j - prF f b a else if j = 8 - tkF f b a then f j + gaF f (prF f b a) else if j = 11 + tkF f b a then f j + prF f b a else if j = 13 + tkF f b a then f j + 1 else if j = 15 + tkF f b a then f j + wnF f b a else if j = 18 then f 18 + wnF f b a else f j
theorem tkF_b {f : Int → Int} (ok : okF f) (b a : Int) : tkF f b a = 0 ∨ tkF f b a = 1 := by
  obtain ⟨-, -, -, -, -, o5, -⟩ := ok
  unfold tkF
  split <;> omega
theorem plF_at0 {f : Int → Int} {b a : Int} (ht : tkF f b a = 0) : plF f b a 0 = f 0 ∧ plF f b a 1 = f 1 ∧ plF f b a 2 = f 2 ∧ plF f b a 3 = f 3 ∧ plF f b a 4 = f 4 + 1 ∧ plF f b a 5 = 1 - f 5 ∧ plF f b a 6 = f 6 + 1 ∧ plF f b a 7 = f 7 - prF f b a ∧ plF f b a 8 = f 8 + gaF f (prF f b a) ∧ plF f b a 9 = f 9 ∧ plF f b a 10 = f 10 ∧ plF f b a 11 = f 11 + prF f b a ∧ plF f b a 12 = f 12 ∧ plF f b a 13 = f 13 + 1 ∧ plF f b a 14 = f 14 ∧ plF f b a 15 = f 15 + (if winE (f 0) (f 4 + 1) = -1006 then 0 else 1) ∧ plF f b a 16 = f 16 ∧ plF f b a 17 = f 17 + (prF f b a - gaF f (prF f b a)) ∧ plF f b a 18 = f 18 + (if winE (f 0) (f 4 + 1) = -1006 then 0 else 1) := by
  have hh : hdF f b a = f 4 + 1 := by unfold hdF; rw [ht]; rfl
  refine ⟨?_, ?_, ?_, ?_, ?_, ?_, ?_, ?_, ?_, ?_, ?_, ?_, ?_, ?_, ?_, ?_, ?_, ?_, ?_⟩
  all_goals (unfold plF; rw [ht]; first | rfl | exact hh | (unfold wnF; rw [hh]; rfl))
theorem plF_at1 {f : Int → Int} {b a : Int} (ht : tkF f b a = 1) : plF f b a 0 = f 0 ∧ plF f b a 1 = f 1 ∧ plF f b a 2 = f 2 ∧ plF f b a 3 = f 3 ∧ plF f b a 4 = f 4 + -1 ∧ plF f b a 5 = 1 - f 5 ∧ plF f b a 6 = f 6 + 1 ∧ plF f b a 7 = f 7 + gaF f (prF f b a) ∧ plF f b a 8 = f 8 - prF f b a ∧ plF f b a 9 = f 9 ∧ plF f b a 10 = f 10 ∧ plF f b a 11 = f 11 ∧ plF f b a 12 = f 12 + prF f b a ∧ plF f b a 13 = f 13 ∧ plF f b a 14 = f 14 + 1 ∧ plF f b a 15 = f 15 ∧ plF f b a 16 = f 16 + (if winE (f 0) (f 4 + -1) = -1006 then 0 else 1) ∧ plF f b a 17 = f 17 + (prF f b a - gaF f (prF f b a)) ∧ plF f b a 18 = f 18 + (if winE (f 0) (f 4 + -1) = -1006 then 0 else 1) := by
  have hh : hdF f b a = f 4 + -1 := by unfold hdF; rw [ht]; rfl
  refine ⟨?_, ?_, ?_, ?_, ?_, ?_, ?_, ?_, ?_, ?_, ?_, ?_, ?_, ?_, ?_, ?_, ?_, ?_, ?_⟩
  all_goals (unfold plF; rw [ht]; first | rfl | exact hh | (unfold wnF; rw [hh]; rfl))
set_option maxHeartbeats 1000000 in
set_option maxRecDepth 20000 in
theorem c_X2_playRound0 {S : pS} {g z o : Nat} {f : Int → Int} (hg : IsG S g z o f) (ok : okF f) {b a : Int} (hb : 0 ≤ b ∧ b ≤ 16) (ha : 0 ≤ a ∧ a ≤ 16) (ht : tkF f b a = 0) : Ct yX2_playRound cX2_playRound 7 (Option.some FieldType.int) 2 0 0 [.ref g, .int (iI b), .int (iI a)] S (kIS 0 (UG S g z o (plF f b a))) := by
  have ct := c_X2_takerOf hg ok (b := b) (a := a) (by omega) (by omega)
  rw [ht] at ct
  obtain ⟨o0, o1, o2, o3, o4, o5, o7, o9, o10, o12, o13, -⟩ := ok
  obtain ⟨p0, p1, p2, p3, p4, p5, p6, p7, p8, p9, p10, p11, p12, p13, p14, p15, p16, p17, p18⟩ := plF_at0 ht
  refine Ct.ofJ (by decide +kernel) (Nat.le_of_ble_eq_true rfl) ?_
  refine J_L (L1 := [some (.ref g), some (.int (iI b)), some (.int (iI a)), none, none, none, none]) rfl ?_
  refine J_aload_n (pc1 := 1) rfl (i := 0) rfl dX2_playRound_0 rfl ?_
  refine J_iload_n (pc1 := 2) rfl (i := 1) rfl dX2_playRound_1 rfl ?_
  refine J_iload_n (pc1 := 3) rfl (i := 2) rfl dX2_playRound_2 rfl ?_
  refine J_callVI (pc1 := 6) (As := [.int (iI b), .int (iI a)]) gv_X2_72 yv_X2_takerOf rfl (ct) dX2_playRound_3 rfl hg.1 rfl rfl (by omega) (by decide) (Nat.zero_le _) (Nat.zero_le _) (Nat.le_of_ble_eq_true rfl) ?_
  refine J_istore_n (pc1 := 7) (L1 := [some (.ref g), some (.int (iI b)), some (.int (iI a)), some (.int (iI 0)), none, none, none]) rfl (i := 3) dX2_playRound_6 rfl (by decide) rfl rfl ?_
  refine J_iload_n (pc1 := 8) rfl (i := 3) rfl dX2_playRound_7 rfl ?_
  refine J_aload_n (pc1 := 9) rfl (i := 0) rfl dX2_playRound_8 rfl ?_
  refine J_get (pc1 := 12) (j := 5) inUX2 (ci := 2) rfl (by decide) lf_X2_37 dX2_playRound_9 rfl hg.1 rfl ?_
  refine J_icmp_ne (pc1 := 15) (tgt := 19) (by decide) (by decide) (by omega) (by omega) dX2_playRound_12 rfl rfl (fun hc1 => ?_) (fun hc1 => ?_)
  · refine J_iload_n (pc1 := 20) rfl (i := 2) rfl dX2_playRound_19 rfl ?_
    refine J_istore (pc1 := 22) (L1 := [some (.ref g), some (.int (iI b)), some (.int (iI a)), some (.int (iI 0)), some (.int (iI a)), none, none]) dX2_playRound_20 rfl (by decide) rfl rfl ?_
    refine J_aload_n (pc1 := 23) rfl (i := 0) rfl dX2_playRound_22 rfl ?_
    refine J_iload_n (pc1 := 24) rfl (i := 3) rfl dX2_playRound_23 rfl ?_
    refine J_callVF (pc1 := 27) (As := [.int (iI 0)]) gv_X2_57 yv_X2_sideOf rfl (c_X2_sideOf0 hg.1) dX2_playRound_24 rfl hg.1 rfl rfl (by omega) (by decide) (Nat.zero_le _) (Nat.zero_le _) (Nat.le_of_ble_eq_true rfl) ?_
    refine J_astore (pc1 := 29) (L1 := [some (.ref g), some (.int (iI b)), some (.int (iI a)), some (.int (iI 0)), some (.int (iI a)), some (.ref z), none]) dX2_playRound_27 rfl (by decide) rfl rfl ?_
    refine J_aload (pc1 := 31) rfl dX2_playRound_29 rfl ?_
    refine J_dup (pc1 := 32) rfl dX2_playRound_31 rfl ?_
    refine J_get (pc1 := 35) (j := 1) inUX6 (ci := 6) rfl (by decide) lf_X2_61 dX2_playRound_32 rfl hg.2.1 rfl ?_
    refine J_iload (pc1 := 37) rfl dX2_playRound_35 rfl ?_
    refine J_isub (pc1 := 38) dX2_playRound_37 rfl ?_
    refine J_put (pc1 := 41) (ty := .int) (j := 1) (fs1 := [.int (iI (f 9)), .int (iI ((f 7) - a)), .int (iI (f 11)), .int (iI (f 13)), .int (iI (f 15))]) inUX6 (ci := 6) rfl (by decide) tyX6 tyX6_ok nmX6 rfl (by decide +kernel) lf_X2_61 dX2_playRound_38 rfl hg.2.1 rfl (by rfl) (Nat.le_of_ble_eq_true rfl) rfl ?_
    refine J_aload (pc1 := 43) rfl dX2_playRound_41 rfl ?_
    refine J_dup (pc1 := 44) rfl dX2_playRound_43 rfl ?_
    refine J_get (pc1 := 47) (j := 2) inUX6 (ci := 6) rfl (by decide) lf_X2_76 dX2_playRound_44 rfl (pu_self _ _ _) rfl ?_
    refine J_iload (pc1 := 49) rfl dX2_playRound_47 rfl ?_
    refine J_iadd (pc1 := 50) dX2_playRound_49 rfl ?_
    refine J_put (pc1 := 53) (ty := .int) (j := 2) (fs1 := [.int (iI (f 9)), .int (iI ((f 7) - a)), .int (iI ((f 11) + a)), .int (iI (f 13)), .int (iI (f 15))]) inUX6 (ci := 6) rfl (by decide) tyX6 tyX6_ok nmX6 rfl (by decide +kernel) lf_X2_76 dX2_playRound_50 rfl (pu_self _ _ _) rfl (by rfl) (Nat.le_of_ble_eq_true rfl) rfl ?_
    rw [pu_pu]
    refine J_aload (pc1 := 55) rfl dX2_playRound_53 rfl ?_
    refine J_dup (pc1 := 56) rfl dX2_playRound_55 rfl ?_
    refine J_get (pc1 := 59) (j := 3) inUX6 (ci := 6) rfl (by decide) lf_X2_79 dX2_playRound_56 rfl (pu_self _ _ _) rfl ?_
    refine J_iconst (pc1 := 60) dX2_playRound_59 rfl ?_
    refine J_iadd (pc1 := 61) dX2_playRound_60 rfl ?_
    refine J_put (pc1 := 64) (ty := .int) (j := 3) (fs1 := [.int (iI (f 9)), .int (iI ((f 7) - a)), .int (iI ((f 11) + a)), .int (iI ((f 13) + 1)), .int (iI (f 15))]) inUX6 (ci := 6) rfl (by decide) tyX6 tyX6_ok nmX6 rfl (by decide +kernel) lf_X2_79 dX2_playRound_61 rfl (pu_self _ _ _) rfl (by rfl) (Nat.le_of_ble_eq_true rfl) rfl ?_
    rw [pu_pu]
    refine J_aload_n (pc1 := 65) rfl (i := 0) rfl dX2_playRound_64 rfl ?_
    refine J_iload (pc1 := 67) rfl dX2_playRound_65 rfl ?_
    refine J_callVI (pc1 := 70) (As := [.int (iI a)]) gv_X2_82 yv_X2_gainOf rfl (c_X2_gainOf (p := f 2) ((pu_ne _ _ (ne_ci hg.1 hg.2.1 (by decide))).trans hg.1) (by omega)) dX2_playRound_67 rfl ((pu_ne _ _ (ne_ci hg.1 hg.2.1 (by decide))).trans hg.1) rfl rfl (by omega) (by decide) (Nat.zero_le _) (Nat.zero_le _) (Nat.le_of_ble_eq_true rfl) ?_
    refine J_istore (pc1 := 72) (L1 := [some (.ref g), some (.int (iI b)), some (.int (iI a)), some (.int (iI 0)), some (.int (iI a)), some (.ref z), some (.int (iI (gaF f a)))]) dX2_playRound_70 rfl (by decide) rfl rfl ?_
    refine J_aload_n (pc1 := 73) rfl (i := 0) rfl dX2_playRound_72 rfl ?_
    refine J_iconst (pc1 := 74) dX2_playRound_73 rfl ?_
    refine J_iload_n (pc1 := 75) rfl (i := 3) rfl dX2_playRound_74 rfl ?_
    refine J_isubE (pc1 := 76) (z := 1) (by decide) dX2_playRound_75 rfl ?_
    refine J_callVF (pc1 := 79) (As := [.int (iI 1)]) gv_X2_57 yv_X2_sideOf rfl (c_X2_sideOf1 ((pu_ne _ _ (ne_ci hg.1 hg.2.1 (by decide))).trans hg.1)) dX2_playRound_76 rfl ((pu_ne _ _ (ne_ci hg.1 hg.2.1 (by decide))).trans hg.1) rfl rfl (by omega) (by decide) (Nat.zero_le _) (Nat.zero_le _) (Nat.le_of_ble_eq_true rfl) ?_
    refine J_dup (pc1 := 80) rfl dX2_playRound_79 rfl ?_
    refine J_get (pc1 := 83) (j := 1) inUX6 (ci := 6) rfl (by decide) lf_X2_61 dX2_playRound_80 rfl ((pu_ne _ _ (Ne.symm hg.2.2.2)).trans hg.2.2.1) rfl ?_
    refine J_iload (pc1 := 85) rfl dX2_playRound_83 rfl ?_
    refine J_iadd (pc1 := 86) dX2_playRound_85 rfl ?_
    refine J_put (pc1 := 89) (ty := .int) (j := 1) (fs1 := [.int (iI (f 10)), .int (iI ((f 8) + (gaF f a))), .int (iI (f 12)), .int (iI (f 14)), .int (iI (f 16))]) inUX6 (ci := 6) rfl (by decide) tyX6 tyX6_ok nmX6 rfl (by decide +kernel) lf_X2_61 dX2_playRound_86 rfl ((pu_ne _ _ (Ne.symm hg.2.2.2)).trans hg.2.2.1) rfl (by rfl) (Nat.le_of_ble_eq_true rfl) rfl ?_
    refine J_aload_n (pc1 := 90) rfl (i := 0) rfl dX2_playRound_89 rfl ?_
    refine J_dup (pc1 := 91) rfl dX2_playRound_90 rfl ?_
    refine J_get (pc1 := 94) (j := 7) inUX2 (ci := 2) rfl (by decide) lf_X2_43 dX2_playRound_91 rfl ((pu_ne _ _ (ne_ci hg.1 hg.2.2.1 (by decide))).trans ((pu_ne _ _ (ne_ci hg.1 hg.2.1 (by decide))).trans hg.1)) rfl ?_
    refine J_iload (pc1 := 96) rfl dX2_playRound_94 rfl ?_
    refine J_iload (pc1 := 98) rfl dX2_playRound_96 rfl ?_
    refine J_isub (pc1 := 99) dX2_playRound_98 rfl ?_
    refine J_iadd (pc1 := 100) dX2_playRound_99 rfl ?_
    refine J_put (pc1 := 103) (ty := .int) (j := 7) (fs1 := [.int (iI (f 0)), .int (iI (f 1)), .int (iI (f 2)), .int (iI (f 3)), .int (iI (f 4)), .int (iI (f 5)), .int (iI (f 6)), .int (iI ((f 17) + (a - (gaF f a)))), .ref z, .ref o]) inUX2 (ci := 2) rfl (by decide) tyX2 tyX2_ok nmX2 rfl (by decide +kernel) lf_X2_43 dX2_playRound_100 rfl ((pu_ne _ _ (ne_ci hg.1 hg.2.2.1 (by decide))).trans ((pu_ne _ _ (ne_ci hg.1 hg.2.1 (by decide))).trans hg.1)) rfl (by rfl) (Nat.le_of_ble_eq_true rfl) rfl ?_
    refine J_aload_n (pc1 := 104) rfl (i := 0) rfl dX2_playRound_103 rfl ?_
    refine J_dup (pc1 := 105) rfl dX2_playRound_104 rfl ?_
    refine J_get (pc1 := 108) (j := 4) inUX2 (ci := 2) rfl (by decide) lf_X2_34 dX2_playRound_105 rfl (pu_self _ _ _) rfl ?_
    refine J_iload_n (pc1 := 109) rfl (i := 3) rfl dX2_playRound_108 rfl ?_
    refine J_if_ne (pc1 := 112) (tgt := 116) (by decide) (by decide) dX2_playRound_109 rfl rfl (fun hc2 => ?_) (fun hc2 => ?_)
    · exact absurd hc2 (by decide)
    · refine J_iconst (pc1 := 113) dX2_playRound_112 rfl ?_
      refine J_goto (tgt := 117) dX2_playRound_113 rfl ?_
      refine J_iadd (pc1 := 118) dX2_playRound_117 rfl ?_
      refine J_put (pc1 := 121) (ty := .int) (j := 4) (fs1 := [.int (iI (f 0)), .int (iI (f 1)), .int (iI (f 2)), .int (iI (f 3)), .int (iI ((f 4) + 1)), .int (iI (f 5)), .int (iI (f 6)), .int (iI ((f 17) + (a - (gaF f a)))), .ref z, .ref o]) inUX2 (ci := 2) rfl (by decide) tyX2 tyX2_ok nmX2 rfl (by decide +kernel) lf_X2_34 dX2_playRound_118 rfl (pu_self _ _ _) rfl (by rfl) (Nat.le_of_ble_eq_true rfl) rfl ?_
      rw [pu_pu]
      refine J_aload_n (pc1 := 122) rfl (i := 0) rfl dX2_playRound_121 rfl ?_
      refine J_iconst (pc1 := 123) dX2_playRound_122 rfl ?_
      refine J_aload_n (pc1 := 124) rfl (i := 0) rfl dX2_playRound_123 rfl ?_
      refine J_get (pc1 := 127) (j := 5) inUX2 (ci := 2) rfl (by decide) lf_X2_37 dX2_playRound_124 rfl (pu_self _ _ _) rfl ?_
      refine J_isub (pc1 := 128) dX2_playRound_127 rfl ?_
      refine J_put (pc1 := 131) (ty := .int) (j := 5) (fs1 := [.int (iI (f 0)), .int (iI (f 1)), .int (iI (f 2)), .int (iI (f 3)), .int (iI ((f 4) + 1)), .int (iI (1 - (f 5))), .int (iI (f 6)), .int (iI ((f 17) + (a - (gaF f a)))), .ref z, .ref o]) inUX2 (ci := 2) rfl (by decide) tyX2 tyX2_ok nmX2 rfl (by decide +kernel) lf_X2_37 dX2_playRound_128 rfl (pu_self _ _ _) rfl (by rfl) (Nat.le_of_ble_eq_true rfl) rfl ?_
      rw [pu_pu]
      refine J_aload_n (pc1 := 132) rfl (i := 0) rfl dX2_playRound_131 rfl ?_
      refine J_dup (pc1 := 133) rfl dX2_playRound_132 rfl ?_
      refine J_get (pc1 := 136) (j := 6) inUX2 (ci := 2) rfl (by decide) lf_X2_40 dX2_playRound_133 rfl (pu_self _ _ _) rfl ?_
      refine J_iconst (pc1 := 137) dX2_playRound_136 rfl ?_
      refine J_iadd (pc1 := 138) dX2_playRound_137 rfl ?_
      refine J_put (pc1 := 141) (ty := .int) (j := 6) (fs1 := [.int (iI (f 0)), .int (iI (f 1)), .int (iI (f 2)), .int (iI (f 3)), .int (iI ((f 4) + 1)), .int (iI (1 - (f 5))), .int (iI ((f 6) + 1)), .int (iI ((f 17) + (a - (gaF f a)))), .ref z, .ref o]) inUX2 (ci := 2) rfl (by decide) tyX2 tyX2_ok nmX2 rfl (by decide +kernel) lf_X2_40 dX2_playRound_138 rfl (pu_self _ _ _) rfl (by rfl) (Nat.le_of_ble_eq_true rfl) rfl ?_
      rw [pu_pu]
      refine J_aload_n (pc1 := 142) rfl (i := 0) rfl dX2_playRound_141 rfl ?_
      refine J_callVI (pc1 := 145) (As := []) gv_X2_64 yv_X2_isOver rfl (c_X2_isOver (e := f 0) (h := (f 4) + 1) (pu_self _ _ _) (by omega) (by omega)) dX2_playRound_142 rfl (pu_self _ _ _) rfl rfl (by omega) (by decide) (Nat.zero_le _) (Nat.zero_le _) (Nat.le_of_ble_eq_true rfl) ?_
      refine J_if_eq (pc1 := 148) (tgt := 159) (bZ_lo _) (bZ_hi _) dX2_playRound_145 rfl rfl (fun hc3 => ?_) (fun hc3 => ?_)
      · refine J_iload_n (pc1 := 160) rfl (i := 3) rfl dX2_playRound_159 rfl ?_
        exact J_iret rfl rfl dX2_playRound_160 (Nat.le_refl _) (Nat.le_refl _) (⟨rfl, ⟨⟨((pu_self _ _ _).trans (gmO_c (by exact p0.symm) (by exact p1.symm) (by exact p2.symm) (by exact p3.symm) (by exact p4.symm) (by exact p5.symm) (by exact p6.symm) (by rw [p17]; unfold prF; rw [ht]; first | rw [if_pos (by omega)] | rw [if_neg (by omega)]))), (((pu_ne _ _ (ne_ci hg.2.1 hg.1 (by decide))).trans ((pu_ne _ _ hg.2.2.2).trans (pu_self _ _ _))).trans (sdO_c (by exact p9.symm) (by rw [p7]; unfold prF; rw [ht]; first | rw [if_pos (by omega)] | rw [if_neg (by omega)]) (by rw [p11]; unfold prF; rw [ht]; first | rw [if_pos (by omega)] | rw [if_neg (by omega)]) (by exact p13.symm) (by rw [p15]; (first | rw [if_pos (Decidable.not_not.mp (bZ_0 (by assumption)))] | rw [if_neg (bZ_1 (by assumption))]); try omega))), (((pu_ne _ _ (ne_ci hg.2.2.1 hg.1 (by decide))).trans (pu_self _ _ _)).trans (sdO_c (by exact p10.symm) (by rw [p8]; unfold prF; rw [ht]; first | rw [if_pos (by omega)] | rw [if_neg (by omega)]) (by exact p12.symm) (by exact p14.symm) (by exact p16.symm))), hg.2.2.2⟩, fun x h1 h2 h3 => ((pu_ne _ _ h1).trans ((pu_ne _ _ h3).trans (pu_ne _ _ h2)))⟩⟩)
      · refine J_aload (pc1 := 150) rfl dX2_playRound_148 rfl ?_
        refine J_dup (pc1 := 151) rfl dX2_playRound_150 rfl ?_
        refine J_get (pc1 := 154) (j := 4) inUX6 (ci := 6) rfl (by decide) lf_X2_85 dX2_playRound_151 rfl ((pu_ne _ _ (ne_ci hg.2.1 hg.1 (by decide))).trans ((pu_ne _ _ hg.2.2.2).trans (pu_self _ _ _))) rfl ?_
        refine J_iconst (pc1 := 155) dX2_playRound_154 rfl ?_
        refine J_iadd (pc1 := 156) dX2_playRound_155 rfl ?_
        refine J_put (pc1 := 159) (ty := .int) (j := 4) (fs1 := [.int (iI (f 9)), .int (iI ((f 7) - a)), .int (iI ((f 11) + a)), .int (iI ((f 13) + 1)), .int (iI ((f 15) + 1))]) inUX6 (ci := 6) rfl (by decide) tyX6 tyX6_ok nmX6 rfl (by decide +kernel) lf_X2_85 dX2_playRound_156 rfl ((pu_ne _ _ (ne_ci hg.2.1 hg.1 (by decide))).trans ((pu_ne _ _ hg.2.2.2).trans (pu_self _ _ _))) rfl (by rfl) (Nat.le_of_ble_eq_true rfl) rfl ?_
        refine J_iload_n (pc1 := 160) rfl (i := 3) rfl dX2_playRound_159 rfl ?_
        exact J_iret rfl rfl dX2_playRound_160 (Nat.le_refl _) (Nat.le_refl _) (⟨rfl, ⟨⟨(((pu_ne _ _ (ne_ci hg.1 hg.2.1 (by decide))).trans (pu_self _ _ _)).trans (gmO_c (by exact p0.symm) (by exact p1.symm) (by exact p2.symm) (by exact p3.symm) (by exact p4.symm) (by exact p5.symm) (by exact p6.symm) (by rw [p17]; unfold prF; rw [ht]; first | rw [if_pos (by omega)] | rw [if_neg (by omega)]))), ((pu_self _ _ _).trans (sdO_c (by exact p9.symm) (by rw [p7]; unfold prF; rw [ht]; first | rw [if_pos (by omega)] | rw [if_neg (by omega)]) (by rw [p11]; unfold prF; rw [ht]; first | rw [if_pos (by omega)] | rw [if_neg (by omega)]) (by exact p13.symm) (by rw [p15]; (first | rw [if_pos (Decidable.not_not.mp (bZ_0 (by assumption)))] | rw [if_neg (bZ_1 (by assumption))]); try omega))), (((pu_ne _ _ (Ne.symm hg.2.2.2)).trans ((pu_ne _ _ (ne_ci hg.2.2.1 hg.1 (by decide))).trans (pu_self _ _ _))).trans (sdO_c (by exact p10.symm) (by rw [p8]; unfold prF; rw [ht]; first | rw [if_pos (by omega)] | rw [if_neg (by omega)]) (by exact p12.symm) (by exact p14.symm) (by exact p16.symm))), hg.2.2.2⟩, fun x h1 h2 h3 => ((pu_ne _ _ h2).trans ((pu_ne _ _ h1).trans ((pu_ne _ _ h3).trans (pu_ne _ _ h2))))⟩⟩)
  · refine J_iload_n (pc1 := 16) rfl (i := 1) rfl dX2_playRound_15 rfl ?_
    refine J_goto (tgt := 20) dX2_playRound_16 rfl ?_
    refine J_istore (pc1 := 22) (L1 := [some (.ref g), some (.int (iI b)), some (.int (iI a)), some (.int (iI 0)), some (.int (iI b)), none, none]) dX2_playRound_20 rfl (by decide) rfl rfl ?_
    refine J_aload_n (pc1 := 23) rfl (i := 0) rfl dX2_playRound_22 rfl ?_
    refine J_iload_n (pc1 := 24) rfl (i := 3) rfl dX2_playRound_23 rfl ?_
    refine J_callVF (pc1 := 27) (As := [.int (iI 0)]) gv_X2_57 yv_X2_sideOf rfl (c_X2_sideOf0 hg.1) dX2_playRound_24 rfl hg.1 rfl rfl (by omega) (by decide) (Nat.zero_le _) (Nat.zero_le _) (Nat.le_of_ble_eq_true rfl) ?_
    refine J_astore (pc1 := 29) (L1 := [some (.ref g), some (.int (iI b)), some (.int (iI a)), some (.int (iI 0)), some (.int (iI b)), some (.ref z), none]) dX2_playRound_27 rfl (by decide) rfl rfl ?_
    refine J_aload (pc1 := 31) rfl dX2_playRound_29 rfl ?_
    refine J_dup (pc1 := 32) rfl dX2_playRound_31 rfl ?_
    refine J_get (pc1 := 35) (j := 1) inUX6 (ci := 6) rfl (by decide) lf_X2_61 dX2_playRound_32 rfl hg.2.1 rfl ?_
    refine J_iload (pc1 := 37) rfl dX2_playRound_35 rfl ?_
    refine J_isub (pc1 := 38) dX2_playRound_37 rfl ?_
    refine J_put (pc1 := 41) (ty := .int) (j := 1) (fs1 := [.int (iI (f 9)), .int (iI ((f 7) - b)), .int (iI (f 11)), .int (iI (f 13)), .int (iI (f 15))]) inUX6 (ci := 6) rfl (by decide) tyX6 tyX6_ok nmX6 rfl (by decide +kernel) lf_X2_61 dX2_playRound_38 rfl hg.2.1 rfl (by rfl) (Nat.le_of_ble_eq_true rfl) rfl ?_
    refine J_aload (pc1 := 43) rfl dX2_playRound_41 rfl ?_
    refine J_dup (pc1 := 44) rfl dX2_playRound_43 rfl ?_
    refine J_get (pc1 := 47) (j := 2) inUX6 (ci := 6) rfl (by decide) lf_X2_76 dX2_playRound_44 rfl (pu_self _ _ _) rfl ?_
    refine J_iload (pc1 := 49) rfl dX2_playRound_47 rfl ?_
    refine J_iadd (pc1 := 50) dX2_playRound_49 rfl ?_
    refine J_put (pc1 := 53) (ty := .int) (j := 2) (fs1 := [.int (iI (f 9)), .int (iI ((f 7) - b)), .int (iI ((f 11) + b)), .int (iI (f 13)), .int (iI (f 15))]) inUX6 (ci := 6) rfl (by decide) tyX6 tyX6_ok nmX6 rfl (by decide +kernel) lf_X2_76 dX2_playRound_50 rfl (pu_self _ _ _) rfl (by rfl) (Nat.le_of_ble_eq_true rfl) rfl ?_
    rw [pu_pu]
    refine J_aload (pc1 := 55) rfl dX2_playRound_53 rfl ?_
    refine J_dup (pc1 := 56) rfl dX2_playRound_55 rfl ?_
    refine J_get (pc1 := 59) (j := 3) inUX6 (ci := 6) rfl (by decide) lf_X2_79 dX2_playRound_56 rfl (pu_self _ _ _) rfl ?_
    refine J_iconst (pc1 := 60) dX2_playRound_59 rfl ?_
    refine J_iadd (pc1 := 61) dX2_playRound_60 rfl ?_
    refine J_put (pc1 := 64) (ty := .int) (j := 3) (fs1 := [.int (iI (f 9)), .int (iI ((f 7) - b)), .int (iI ((f 11) + b)), .int (iI ((f 13) + 1)), .int (iI (f 15))]) inUX6 (ci := 6) rfl (by decide) tyX6 tyX6_ok nmX6 rfl (by decide +kernel) lf_X2_79 dX2_playRound_61 rfl (pu_self _ _ _) rfl (by rfl) (Nat.le_of_ble_eq_true rfl) rfl ?_
    rw [pu_pu]
    refine J_aload_n (pc1 := 65) rfl (i := 0) rfl dX2_playRound_64 rfl ?_
    refine J_iload (pc1 := 67) rfl dX2_playRound_65 rfl ?_
    refine J_callVI (pc1 := 70) (As := [.int (iI b)]) gv_X2_82 yv_X2_gainOf rfl (c_X2_gainOf (p := f 2) ((pu_ne _ _ (ne_ci hg.1 hg.2.1 (by decide))).trans hg.1) (by omega)) dX2_playRound_67 rfl ((pu_ne _ _ (ne_ci hg.1 hg.2.1 (by decide))).trans hg.1) rfl rfl (by omega) (by decide) (Nat.zero_le _) (Nat.zero_le _) (Nat.le_of_ble_eq_true rfl) ?_
    refine J_istore (pc1 := 72) (L1 := [some (.ref g), some (.int (iI b)), some (.int (iI a)), some (.int (iI 0)), some (.int (iI b)), some (.ref z), some (.int (iI (gaF f b)))]) dX2_playRound_70 rfl (by decide) rfl rfl ?_
    refine J_aload_n (pc1 := 73) rfl (i := 0) rfl dX2_playRound_72 rfl ?_
    refine J_iconst (pc1 := 74) dX2_playRound_73 rfl ?_
    refine J_iload_n (pc1 := 75) rfl (i := 3) rfl dX2_playRound_74 rfl ?_
    refine J_isubE (pc1 := 76) (z := 1) (by decide) dX2_playRound_75 rfl ?_
    refine J_callVF (pc1 := 79) (As := [.int (iI 1)]) gv_X2_57 yv_X2_sideOf rfl (c_X2_sideOf1 ((pu_ne _ _ (ne_ci hg.1 hg.2.1 (by decide))).trans hg.1)) dX2_playRound_76 rfl ((pu_ne _ _ (ne_ci hg.1 hg.2.1 (by decide))).trans hg.1) rfl rfl (by omega) (by decide) (Nat.zero_le _) (Nat.zero_le _) (Nat.le_of_ble_eq_true rfl) ?_
    refine J_dup (pc1 := 80) rfl dX2_playRound_79 rfl ?_
    refine J_get (pc1 := 83) (j := 1) inUX6 (ci := 6) rfl (by decide) lf_X2_61 dX2_playRound_80 rfl ((pu_ne _ _ (Ne.symm hg.2.2.2)).trans hg.2.2.1) rfl ?_
    refine J_iload (pc1 := 85) rfl dX2_playRound_83 rfl ?_
    refine J_iadd (pc1 := 86) dX2_playRound_85 rfl ?_
    refine J_put (pc1 := 89) (ty := .int) (j := 1) (fs1 := [.int (iI (f 10)), .int (iI ((f 8) + (gaF f b))), .int (iI (f 12)), .int (iI (f 14)), .int (iI (f 16))]) inUX6 (ci := 6) rfl (by decide) tyX6 tyX6_ok nmX6 rfl (by decide +kernel) lf_X2_61 dX2_playRound_86 rfl ((pu_ne _ _ (Ne.symm hg.2.2.2)).trans hg.2.2.1) rfl (by rfl) (Nat.le_of_ble_eq_true rfl) rfl ?_
    refine J_aload_n (pc1 := 90) rfl (i := 0) rfl dX2_playRound_89 rfl ?_
    refine J_dup (pc1 := 91) rfl dX2_playRound_90 rfl ?_
    refine J_get (pc1 := 94) (j := 7) inUX2 (ci := 2) rfl (by decide) lf_X2_43 dX2_playRound_91 rfl ((pu_ne _ _ (ne_ci hg.1 hg.2.2.1 (by decide))).trans ((pu_ne _ _ (ne_ci hg.1 hg.2.1 (by decide))).trans hg.1)) rfl ?_
    refine J_iload (pc1 := 96) rfl dX2_playRound_94 rfl ?_
    refine J_iload (pc1 := 98) rfl dX2_playRound_96 rfl ?_
    refine J_isub (pc1 := 99) dX2_playRound_98 rfl ?_
    refine J_iadd (pc1 := 100) dX2_playRound_99 rfl ?_
    refine J_put (pc1 := 103) (ty := .int) (j := 7) (fs1 := [.int (iI (f 0)), .int (iI (f 1)), .int (iI (f 2)), .int (iI (f 3)), .int (iI (f 4)), .int (iI (f 5)), .int (iI (f 6)), .int (iI ((f 17) + (b - (gaF f b)))), .ref z, .ref o]) inUX2 (ci := 2) rfl (by decide) tyX2 tyX2_ok nmX2 rfl (by decide +kernel) lf_X2_43 dX2_playRound_100 rfl ((pu_ne _ _ (ne_ci hg.1 hg.2.2.1 (by decide))).trans ((pu_ne _ _ (ne_ci hg.1 hg.2.1 (by decide))).trans hg.1)) rfl (by rfl) (Nat.le_of_ble_eq_true rfl) rfl ?_
    refine J_aload_n (pc1 := 104) rfl (i := 0) rfl dX2_playRound_103 rfl ?_
    refine J_dup (pc1 := 105) rfl dX2_playRound_104 rfl ?_
    refine J_get (pc1 := 108) (j := 4) inUX2 (ci := 2) rfl (by decide) lf_X2_34 dX2_playRound_105 rfl (pu_self _ _ _) rfl ?_
    refine J_iload_n (pc1 := 109) rfl (i := 3) rfl dX2_playRound_108 rfl ?_
    refine J_if_ne (pc1 := 112) (tgt := 116) (by decide) (by decide) dX2_playRound_109 rfl rfl (fun hc4 => ?_) (fun hc4 => ?_)
    · exact absurd hc4 (by decide)
    · refine J_iconst (pc1 := 113) dX2_playRound_112 rfl ?_
      refine J_goto (tgt := 117) dX2_playRound_113 rfl ?_
      refine J_iadd (pc1 := 118) dX2_playRound_117 rfl ?_
      refine J_put (pc1 := 121) (ty := .int) (j := 4) (fs1 := [.int (iI (f 0)), .int (iI (f 1)), .int (iI (f 2)), .int (iI (f 3)), .int (iI ((f 4) + 1)), .int (iI (f 5)), .int (iI (f 6)), .int (iI ((f 17) + (b - (gaF f b)))), .ref z, .ref o]) inUX2 (ci := 2) rfl (by decide) tyX2 tyX2_ok nmX2 rfl (by decide +kernel) lf_X2_34 dX2_playRound_118 rfl (pu_self _ _ _) rfl (by rfl) (Nat.le_of_ble_eq_true rfl) rfl ?_
      rw [pu_pu]
      refine J_aload_n (pc1 := 122) rfl (i := 0) rfl dX2_playRound_121 rfl ?_
      refine J_iconst (pc1 := 123) dX2_playRound_122 rfl ?_
      refine J_aload_n (pc1 := 124) rfl (i := 0) rfl dX2_playRound_123 rfl ?_
      refine J_get (pc1 := 127) (j := 5) inUX2 (ci := 2) rfl (by decide) lf_X2_37 dX2_playRound_124 rfl (pu_self _ _ _) rfl ?_
      refine J_isub (pc1 := 128) dX2_playRound_127 rfl ?_
      refine J_put (pc1 := 131) (ty := .int) (j := 5) (fs1 := [.int (iI (f 0)), .int (iI (f 1)), .int (iI (f 2)), .int (iI (f 3)), .int (iI ((f 4) + 1)), .int (iI (1 - (f 5))), .int (iI (f 6)), .int (iI ((f 17) + (b - (gaF f b)))), .ref z, .ref o]) inUX2 (ci := 2) rfl (by decide) tyX2 tyX2_ok nmX2 rfl (by decide +kernel) lf_X2_37 dX2_playRound_128 rfl (pu_self _ _ _) rfl (by rfl) (Nat.le_of_ble_eq_true rfl) rfl ?_
      rw [pu_pu]
      refine J_aload_n (pc1 := 132) rfl (i := 0) rfl dX2_playRound_131 rfl ?_
      refine J_dup (pc1 := 133) rfl dX2_playRound_132 rfl ?_
      refine J_get (pc1 := 136) (j := 6) inUX2 (ci := 2) rfl (by decide) lf_X2_40 dX2_playRound_133 rfl (pu_self _ _ _) rfl ?_
      refine J_iconst (pc1 := 137) dX2_playRound_136 rfl ?_
      refine J_iadd (pc1 := 138) dX2_playRound_137 rfl ?_
      refine J_put (pc1 := 141) (ty := .int) (j := 6) (fs1 := [.int (iI (f 0)), .int (iI (f 1)), .int (iI (f 2)), .int (iI (f 3)), .int (iI ((f 4) + 1)), .int (iI (1 - (f 5))), .int (iI ((f 6) + 1)), .int (iI ((f 17) + (b - (gaF f b)))), .ref z, .ref o]) inUX2 (ci := 2) rfl (by decide) tyX2 tyX2_ok nmX2 rfl (by decide +kernel) lf_X2_40 dX2_playRound_138 rfl (pu_self _ _ _) rfl (by rfl) (Nat.le_of_ble_eq_true rfl) rfl ?_
      rw [pu_pu]
      refine J_aload_n (pc1 := 142) rfl (i := 0) rfl dX2_playRound_141 rfl ?_
      refine J_callVI (pc1 := 145) (As := []) gv_X2_64 yv_X2_isOver rfl (c_X2_isOver (e := f 0) (h := (f 4) + 1) (pu_self _ _ _) (by omega) (by omega)) dX2_playRound_142 rfl (pu_self _ _ _) rfl rfl (by omega) (by decide) (Nat.zero_le _) (Nat.zero_le _) (Nat.le_of_ble_eq_true rfl) ?_
      refine J_if_eq (pc1 := 148) (tgt := 159) (bZ_lo _) (bZ_hi _) dX2_playRound_145 rfl rfl (fun hc5 => ?_) (fun hc5 => ?_)
      · refine J_iload_n (pc1 := 160) rfl (i := 3) rfl dX2_playRound_159 rfl ?_
        exact J_iret rfl rfl dX2_playRound_160 (Nat.le_refl _) (Nat.le_refl _) (⟨rfl, ⟨⟨((pu_self _ _ _).trans (gmO_c (by exact p0.symm) (by exact p1.symm) (by exact p2.symm) (by exact p3.symm) (by exact p4.symm) (by exact p5.symm) (by exact p6.symm) (by rw [p17]; unfold prF; rw [ht]; first | rw [if_pos (by omega)] | rw [if_neg (by omega)]))), (((pu_ne _ _ (ne_ci hg.2.1 hg.1 (by decide))).trans ((pu_ne _ _ hg.2.2.2).trans (pu_self _ _ _))).trans (sdO_c (by exact p9.symm) (by rw [p7]; unfold prF; rw [ht]; first | rw [if_pos (by omega)] | rw [if_neg (by omega)]) (by rw [p11]; unfold prF; rw [ht]; first | rw [if_pos (by omega)] | rw [if_neg (by omega)]) (by exact p13.symm) (by rw [p15]; (first | rw [if_pos (Decidable.not_not.mp (bZ_0 (by assumption)))] | rw [if_neg (bZ_1 (by assumption))]); try omega))), (((pu_ne _ _ (ne_ci hg.2.2.1 hg.1 (by decide))).trans (pu_self _ _ _)).trans (sdO_c (by exact p10.symm) (by rw [p8]; unfold prF; rw [ht]; first | rw [if_pos (by omega)] | rw [if_neg (by omega)]) (by exact p12.symm) (by exact p14.symm) (by exact p16.symm))), hg.2.2.2⟩, fun x h1 h2 h3 => ((pu_ne _ _ h1).trans ((pu_ne _ _ h3).trans (pu_ne _ _ h2)))⟩⟩)
      · refine J_aload (pc1 := 150) rfl dX2_playRound_148 rfl ?_
        refine J_dup (pc1 := 151) rfl dX2_playRound_150 rfl ?_
        refine J_get (pc1 := 154) (j := 4) inUX6 (ci := 6) rfl (by decide) lf_X2_85 dX2_playRound_151 rfl ((pu_ne _ _ (ne_ci hg.2.1 hg.1 (by decide))).trans ((pu_ne _ _ hg.2.2.2).trans (pu_self _ _ _))) rfl ?_
        refine J_iconst (pc1 := 155) dX2_playRound_154 rfl ?_
        refine J_iadd (pc1 := 156) dX2_playRound_155 rfl ?_
        refine J_put (pc1 := 159) (ty := .int) (j := 4) (fs1 := [.int (iI (f 9)), .int (iI ((f 7) - b)), .int (iI ((f 11) + b)), .int (iI ((f 13) + 1)), .int (iI ((f 15) + 1))]) inUX6 (ci := 6) rfl (by decide) tyX6 tyX6_ok nmX6 rfl (by decide +kernel) lf_X2_85 dX2_playRound_156 rfl ((pu_ne _ _ (ne_ci hg.2.1 hg.1 (by decide))).trans ((pu_ne _ _ hg.2.2.2).trans (pu_self _ _ _))) rfl (by rfl) (Nat.le_of_ble_eq_true rfl) rfl ?_
        refine J_iload_n (pc1 := 160) rfl (i := 3) rfl dX2_playRound_159 rfl ?_
        exact J_iret rfl rfl dX2_playRound_160 (Nat.le_refl _) (Nat.le_refl _) (⟨rfl, ⟨⟨(((pu_ne _ _ (ne_ci hg.1 hg.2.1 (by decide))).trans (pu_self _ _ _)).trans (gmO_c (by exact p0.symm) (by exact p1.symm) (by exact p2.symm) (by exact p3.symm) (by exact p4.symm) (by exact p5.symm) (by exact p6.symm) (by rw [p17]; unfold prF; rw [ht]; first | rw [if_pos (by omega)] | rw [if_neg (by omega)]))), ((pu_self _ _ _).trans (sdO_c (by exact p9.symm) (by rw [p7]; unfold prF; rw [ht]; first | rw [if_pos (by omega)] | rw [if_neg (by omega)]) (by rw [p11]; unfold prF; rw [ht]; first | rw [if_pos (by omega)] | rw [if_neg (by omega)]) (by exact p13.symm) (by rw [p15]; (first | rw [if_pos (Decidable.not_not.mp (bZ_0 (by assumption)))] | rw [if_neg (bZ_1 (by assumption))]); try omega))), (((pu_ne _ _ (Ne.symm hg.2.2.2)).trans ((pu_ne _ _ (ne_ci hg.2.2.1 hg.1 (by decide))).trans (pu_self _ _ _))).trans (sdO_c (by exact p10.symm) (by rw [p8]; unfold prF; rw [ht]; first | rw [if_pos (by omega)] | rw [if_neg (by omega)]) (by exact p12.symm) (by exact p14.symm) (by exact p16.symm))), hg.2.2.2⟩, fun x h1 h2 h3 => ((pu_ne _ _ h2).trans ((pu_ne _ _ h1).trans ((pu_ne _ _ h3).trans (pu_ne _ _ h2))))⟩⟩)
set_option maxHeartbeats 1000000 in
set_option maxRecDepth 20000 in
theorem c_X2_playRound1 {S : pS} {g z o : Nat} {f : Int → Int} (hg : IsG S g z o f) (ok : okF f) {b a : Int} (hb : 0 ≤ b ∧ b ≤ 16) (ha : 0 ≤ a ∧ a ≤ 16) (ht : tkF f b a = 1) : Ct yX2_playRound cX2_playRound 7 (Option.some FieldType.int) 2 0 0 [.ref g, .int (iI b), .int (iI a)] S (kIS 1 (UG S g z o (plF f b a))) := by
  have ct := c_X2_takerOf hg ok (b := b) (a := a) (by omega) (by omega)
  rw [ht] at ct
  obtain ⟨o0, o1, o2, o3, o4, o5, o7, o9, o10, o12, o13, -⟩ := ok
  obtain ⟨p0, p1, p2, p3, p4, p5, p6, p7, p8, p9, p10, p11, p12, p13, p14, p15, p16, p17, p18⟩ := plF_at1 ht
  refine Ct.ofJ (by decide +kernel) (Nat.le_of_ble_eq_true rfl) ?_
  refine J_L (L1 := [some (.ref g), some (.int (iI b)), some (.int (iI a)), none, none, none, none]) rfl ?_
  refine J_aload_n (pc1 := 1) rfl (i := 0) rfl dX2_playRound_0 rfl ?_
  refine J_iload_n (pc1 := 2) rfl (i := 1) rfl dX2_playRound_1 rfl ?_
  refine J_iload_n (pc1 := 3) rfl (i := 2) rfl dX2_playRound_2 rfl ?_
  refine J_callVI (pc1 := 6) (As := [.int (iI b), .int (iI a)]) gv_X2_72 yv_X2_takerOf rfl (ct) dX2_playRound_3 rfl hg.1 rfl rfl (by omega) (by decide) (Nat.zero_le _) (Nat.zero_le _) (Nat.le_of_ble_eq_true rfl) ?_
  refine J_istore_n (pc1 := 7) (L1 := [some (.ref g), some (.int (iI b)), some (.int (iI a)), some (.int (iI 1)), none, none, none]) rfl (i := 3) dX2_playRound_6 rfl (by decide) rfl rfl ?_
  refine J_iload_n (pc1 := 8) rfl (i := 3) rfl dX2_playRound_7 rfl ?_
  refine J_aload_n (pc1 := 9) rfl (i := 0) rfl dX2_playRound_8 rfl ?_
  refine J_get (pc1 := 12) (j := 5) inUX2 (ci := 2) rfl (by decide) lf_X2_37 dX2_playRound_9 rfl hg.1 rfl ?_
  refine J_icmp_ne (pc1 := 15) (tgt := 19) (by decide) (by decide) (by omega) (by omega) dX2_playRound_12 rfl rfl (fun hc1 => ?_) (fun hc1 => ?_)
  · refine J_iload_n (pc1 := 20) rfl (i := 2) rfl dX2_playRound_19 rfl ?_
    refine J_istore (pc1 := 22) (L1 := [some (.ref g), some (.int (iI b)), some (.int (iI a)), some (.int (iI 1)), some (.int (iI a)), none, none]) dX2_playRound_20 rfl (by decide) rfl rfl ?_
    refine J_aload_n (pc1 := 23) rfl (i := 0) rfl dX2_playRound_22 rfl ?_
    refine J_iload_n (pc1 := 24) rfl (i := 3) rfl dX2_playRound_23 rfl ?_
    refine J_callVF (pc1 := 27) (As := [.int (iI 1)]) gv_X2_57 yv_X2_sideOf rfl (c_X2_sideOf1 hg.1) dX2_playRound_24 rfl hg.1 rfl rfl (by omega) (by decide) (Nat.zero_le _) (Nat.zero_le _) (Nat.le_of_ble_eq_true rfl) ?_
    refine J_astore (pc1 := 29) (L1 := [some (.ref g), some (.int (iI b)), some (.int (iI a)), some (.int (iI 1)), some (.int (iI a)), some (.ref o), none]) dX2_playRound_27 rfl (by decide) rfl rfl ?_
    refine J_aload (pc1 := 31) rfl dX2_playRound_29 rfl ?_
    refine J_dup (pc1 := 32) rfl dX2_playRound_31 rfl ?_
    refine J_get (pc1 := 35) (j := 1) inUX6 (ci := 6) rfl (by decide) lf_X2_61 dX2_playRound_32 rfl hg.2.2.1 rfl ?_
    refine J_iload (pc1 := 37) rfl dX2_playRound_35 rfl ?_
    refine J_isub (pc1 := 38) dX2_playRound_37 rfl ?_
    refine J_put (pc1 := 41) (ty := .int) (j := 1) (fs1 := [.int (iI (f 10)), .int (iI ((f 8) - a)), .int (iI (f 12)), .int (iI (f 14)), .int (iI (f 16))]) inUX6 (ci := 6) rfl (by decide) tyX6 tyX6_ok nmX6 rfl (by decide +kernel) lf_X2_61 dX2_playRound_38 rfl hg.2.2.1 rfl (by rfl) (Nat.le_of_ble_eq_true rfl) rfl ?_
    refine J_aload (pc1 := 43) rfl dX2_playRound_41 rfl ?_
    refine J_dup (pc1 := 44) rfl dX2_playRound_43 rfl ?_
    refine J_get (pc1 := 47) (j := 2) inUX6 (ci := 6) rfl (by decide) lf_X2_76 dX2_playRound_44 rfl (pu_self _ _ _) rfl ?_
    refine J_iload (pc1 := 49) rfl dX2_playRound_47 rfl ?_
    refine J_iadd (pc1 := 50) dX2_playRound_49 rfl ?_
    refine J_put (pc1 := 53) (ty := .int) (j := 2) (fs1 := [.int (iI (f 10)), .int (iI ((f 8) - a)), .int (iI ((f 12) + a)), .int (iI (f 14)), .int (iI (f 16))]) inUX6 (ci := 6) rfl (by decide) tyX6 tyX6_ok nmX6 rfl (by decide +kernel) lf_X2_76 dX2_playRound_50 rfl (pu_self _ _ _) rfl (by rfl) (Nat.le_of_ble_eq_true rfl) rfl ?_
    rw [pu_pu]
    refine J_aload (pc1 := 55) rfl dX2_playRound_53 rfl ?_
    refine J_dup (pc1 := 56) rfl dX2_playRound_55 rfl ?_
    refine J_get (pc1 := 59) (j := 3) inUX6 (ci := 6) rfl (by decide) lf_X2_79 dX2_playRound_56 rfl (pu_self _ _ _) rfl ?_
    refine J_iconst (pc1 := 60) dX2_playRound_59 rfl ?_
    refine J_iadd (pc1 := 61) dX2_playRound_60 rfl ?_
    refine J_put (pc1 := 64) (ty := .int) (j := 3) (fs1 := [.int (iI (f 10)), .int (iI ((f 8) - a)), .int (iI ((f 12) + a)), .int (iI ((f 14) + 1)), .int (iI (f 16))]) inUX6 (ci := 6) rfl (by decide) tyX6 tyX6_ok nmX6 rfl (by decide +kernel) lf_X2_79 dX2_playRound_61 rfl (pu_self _ _ _) rfl (by rfl) (Nat.le_of_ble_eq_true rfl) rfl ?_
    rw [pu_pu]
    refine J_aload_n (pc1 := 65) rfl (i := 0) rfl dX2_playRound_64 rfl ?_
    refine J_iload (pc1 := 67) rfl dX2_playRound_65 rfl ?_
    refine J_callVI (pc1 := 70) (As := [.int (iI a)]) gv_X2_82 yv_X2_gainOf rfl (c_X2_gainOf (p := f 2) ((pu_ne _ _ (ne_ci hg.1 hg.2.2.1 (by decide))).trans hg.1) (by omega)) dX2_playRound_67 rfl ((pu_ne _ _ (ne_ci hg.1 hg.2.2.1 (by decide))).trans hg.1) rfl rfl (by omega) (by decide) (Nat.zero_le _) (Nat.zero_le _) (Nat.le_of_ble_eq_true rfl) ?_
    refine J_istore (pc1 := 72) (L1 := [some (.ref g), some (.int (iI b)), some (.int (iI a)), some (.int (iI 1)), some (.int (iI a)), some (.ref o), some (.int (iI (gaF f a)))]) dX2_playRound_70 rfl (by decide) rfl rfl ?_
    refine J_aload_n (pc1 := 73) rfl (i := 0) rfl dX2_playRound_72 rfl ?_
    refine J_iconst (pc1 := 74) dX2_playRound_73 rfl ?_
    refine J_iload_n (pc1 := 75) rfl (i := 3) rfl dX2_playRound_74 rfl ?_
    refine J_isubE (pc1 := 76) (z := 0) (by decide) dX2_playRound_75 rfl ?_
    refine J_callVF (pc1 := 79) (As := [.int (iI 0)]) gv_X2_57 yv_X2_sideOf rfl (c_X2_sideOf0 ((pu_ne _ _ (ne_ci hg.1 hg.2.2.1 (by decide))).trans hg.1)) dX2_playRound_76 rfl ((pu_ne _ _ (ne_ci hg.1 hg.2.2.1 (by decide))).trans hg.1) rfl rfl (by omega) (by decide) (Nat.zero_le _) (Nat.zero_le _) (Nat.le_of_ble_eq_true rfl) ?_
    refine J_dup (pc1 := 80) rfl dX2_playRound_79 rfl ?_
    refine J_get (pc1 := 83) (j := 1) inUX6 (ci := 6) rfl (by decide) lf_X2_61 dX2_playRound_80 rfl ((pu_ne _ _ hg.2.2.2).trans hg.2.1) rfl ?_
    refine J_iload (pc1 := 85) rfl dX2_playRound_83 rfl ?_
    refine J_iadd (pc1 := 86) dX2_playRound_85 rfl ?_
    refine J_put (pc1 := 89) (ty := .int) (j := 1) (fs1 := [.int (iI (f 9)), .int (iI ((f 7) + (gaF f a))), .int (iI (f 11)), .int (iI (f 13)), .int (iI (f 15))]) inUX6 (ci := 6) rfl (by decide) tyX6 tyX6_ok nmX6 rfl (by decide +kernel) lf_X2_61 dX2_playRound_86 rfl ((pu_ne _ _ hg.2.2.2).trans hg.2.1) rfl (by rfl) (Nat.le_of_ble_eq_true rfl) rfl ?_
    refine J_aload_n (pc1 := 90) rfl (i := 0) rfl dX2_playRound_89 rfl ?_
    refine J_dup (pc1 := 91) rfl dX2_playRound_90 rfl ?_
    refine J_get (pc1 := 94) (j := 7) inUX2 (ci := 2) rfl (by decide) lf_X2_43 dX2_playRound_91 rfl ((pu_ne _ _ (ne_ci hg.1 hg.2.1 (by decide))).trans ((pu_ne _ _ (ne_ci hg.1 hg.2.2.1 (by decide))).trans hg.1)) rfl ?_
    refine J_iload (pc1 := 96) rfl dX2_playRound_94 rfl ?_
    refine J_iload (pc1 := 98) rfl dX2_playRound_96 rfl ?_
    refine J_isub (pc1 := 99) dX2_playRound_98 rfl ?_
    refine J_iadd (pc1 := 100) dX2_playRound_99 rfl ?_
    refine J_put (pc1 := 103) (ty := .int) (j := 7) (fs1 := [.int (iI (f 0)), .int (iI (f 1)), .int (iI (f 2)), .int (iI (f 3)), .int (iI (f 4)), .int (iI (f 5)), .int (iI (f 6)), .int (iI ((f 17) + (a - (gaF f a)))), .ref z, .ref o]) inUX2 (ci := 2) rfl (by decide) tyX2 tyX2_ok nmX2 rfl (by decide +kernel) lf_X2_43 dX2_playRound_100 rfl ((pu_ne _ _ (ne_ci hg.1 hg.2.1 (by decide))).trans ((pu_ne _ _ (ne_ci hg.1 hg.2.2.1 (by decide))).trans hg.1)) rfl (by rfl) (Nat.le_of_ble_eq_true rfl) rfl ?_
    refine J_aload_n (pc1 := 104) rfl (i := 0) rfl dX2_playRound_103 rfl ?_
    refine J_dup (pc1 := 105) rfl dX2_playRound_104 rfl ?_
    refine J_get (pc1 := 108) (j := 4) inUX2 (ci := 2) rfl (by decide) lf_X2_34 dX2_playRound_105 rfl (pu_self _ _ _) rfl ?_
    refine J_iload_n (pc1 := 109) rfl (i := 3) rfl dX2_playRound_108 rfl ?_
    refine J_if_ne (pc1 := 112) (tgt := 116) (by decide) (by decide) dX2_playRound_109 rfl rfl (fun hc2 => ?_) (fun hc2 => ?_)
    · refine J_iconst (pc1 := 117) dX2_playRound_116 rfl ?_
      refine J_iadd (pc1 := 118) dX2_playRound_117 rfl ?_
      refine J_put (pc1 := 121) (ty := .int) (j := 4) (fs1 := [.int (iI (f 0)), .int (iI (f 1)), .int (iI (f 2)), .int (iI (f 3)), .int (iI ((f 4) + (-1))), .int (iI (f 5)), .int (iI (f 6)), .int (iI ((f 17) + (a - (gaF f a)))), .ref z, .ref o]) inUX2 (ci := 2) rfl (by decide) tyX2 tyX2_ok nmX2 rfl (by decide +kernel) lf_X2_34 dX2_playRound_118 rfl (pu_self _ _ _) rfl (by rfl) (Nat.le_of_ble_eq_true rfl) rfl ?_
      rw [pu_pu]
      refine J_aload_n (pc1 := 122) rfl (i := 0) rfl dX2_playRound_121 rfl ?_
      refine J_iconst (pc1 := 123) dX2_playRound_122 rfl ?_
      refine J_aload_n (pc1 := 124) rfl (i := 0) rfl dX2_playRound_123 rfl ?_
      refine J_get (pc1 := 127) (j := 5) inUX2 (ci := 2) rfl (by decide) lf_X2_37 dX2_playRound_124 rfl (pu_self _ _ _) rfl ?_
      refine J_isub (pc1 := 128) dX2_playRound_127 rfl ?_
      refine J_put (pc1 := 131) (ty := .int) (j := 5) (fs1 := [.int (iI (f 0)), .int (iI (f 1)), .int (iI (f 2)), .int (iI (f 3)), .int (iI ((f 4) + (-1))), .int (iI (1 - (f 5))), .int (iI (f 6)), .int (iI ((f 17) + (a - (gaF f a)))), .ref z, .ref o]) inUX2 (ci := 2) rfl (by decide) tyX2 tyX2_ok nmX2 rfl (by decide +kernel) lf_X2_37 dX2_playRound_128 rfl (pu_self _ _ _) rfl (by rfl) (Nat.le_of_ble_eq_true rfl) rfl ?_
      rw [pu_pu]
      refine J_aload_n (pc1 := 132) rfl (i := 0) rfl dX2_playRound_131 rfl ?_
      refine J_dup (pc1 := 133) rfl dX2_playRound_132 rfl ?_
      refine J_get (pc1 := 136) (j := 6) inUX2 (ci := 2) rfl (by decide) lf_X2_40 dX2_playRound_133 rfl (pu_self _ _ _) rfl ?_
      refine J_iconst (pc1 := 137) dX2_playRound_136 rfl ?_
      refine J_iadd (pc1 := 138) dX2_playRound_137 rfl ?_
      refine J_put (pc1 := 141) (ty := .int) (j := 6) (fs1 := [.int (iI (f 0)), .int (iI (f 1)), .int (iI (f 2)), .int (iI (f 3)), .int (iI ((f 4) + (-1))), .int (iI (1 - (f 5))), .int (iI ((f 6) + 1)), .int (iI ((f 17) + (a - (gaF f a)))), .ref z, .ref o]) inUX2 (ci := 2) rfl (by decide) tyX2 tyX2_ok nmX2 rfl (by decide +kernel) lf_X2_40 dX2_playRound_138 rfl (pu_self _ _ _) rfl (by rfl) (Nat.le_of_ble_eq_true rfl) rfl ?_
      rw [pu_pu]
      refine J_aload_n (pc1 := 142) rfl (i := 0) rfl dX2_playRound_141 rfl ?_
      refine J_callVI (pc1 := 145) (As := []) gv_X2_64 yv_X2_isOver rfl (c_X2_isOver (e := f 0) (h := (f 4) + (-1)) (pu_self _ _ _) (by omega) (by omega)) dX2_playRound_142 rfl (pu_self _ _ _) rfl rfl (by omega) (by decide) (Nat.zero_le _) (Nat.zero_le _) (Nat.le_of_ble_eq_true rfl) ?_
      refine J_if_eq (pc1 := 148) (tgt := 159) (bZ_lo _) (bZ_hi _) dX2_playRound_145 rfl rfl (fun hc3 => ?_) (fun hc3 => ?_)
      · refine J_iload_n (pc1 := 160) rfl (i := 3) rfl dX2_playRound_159 rfl ?_
        exact J_iret rfl rfl dX2_playRound_160 (Nat.le_refl _) (Nat.le_refl _) (⟨rfl, ⟨⟨((pu_self _ _ _).trans (gmO_c (by exact p0.symm) (by exact p1.symm) (by exact p2.symm) (by exact p3.symm) (by exact p4.symm) (by exact p5.symm) (by exact p6.symm) (by rw [p17]; unfold prF; rw [ht]; first | rw [if_pos (by omega)] | rw [if_neg (by omega)]))), (((pu_ne _ _ (ne_ci hg.2.1 hg.1 (by decide))).trans (pu_self _ _ _)).trans (sdO_c (by exact p9.symm) (by rw [p7]; unfold prF; rw [ht]; first | rw [if_pos (by omega)] | rw [if_neg (by omega)]) (by exact p11.symm) (by exact p13.symm) (by exact p15.symm))), (((pu_ne _ _ (ne_ci hg.2.2.1 hg.1 (by decide))).trans ((pu_ne _ _ (Ne.symm hg.2.2.2)).trans (pu_self _ _ _))).trans (sdO_c (by exact p10.symm) (by rw [p8]; unfold prF; rw [ht]; first | rw [if_pos (by omega)] | rw [if_neg (by omega)]) (by rw [p12]; unfold prF; rw [ht]; first | rw [if_pos (by omega)] | rw [if_neg (by omega)]) (by exact p14.symm) (by rw [p16]; (first | rw [if_pos (Decidable.not_not.mp (bZ_0 (by assumption)))] | rw [if_neg (bZ_1 (by assumption))]); try omega))), hg.2.2.2⟩, fun x h1 h2 h3 => ((pu_ne _ _ h1).trans ((pu_ne _ _ h2).trans (pu_ne _ _ h3)))⟩⟩)
      · refine J_aload (pc1 := 150) rfl dX2_playRound_148 rfl ?_
        refine J_dup (pc1 := 151) rfl dX2_playRound_150 rfl ?_
        refine J_get (pc1 := 154) (j := 4) inUX6 (ci := 6) rfl (by decide) lf_X2_85 dX2_playRound_151 rfl ((pu_ne _ _ (ne_ci hg.2.2.1 hg.1 (by decide))).trans ((pu_ne _ _ (Ne.symm hg.2.2.2)).trans (pu_self _ _ _))) rfl ?_
        refine J_iconst (pc1 := 155) dX2_playRound_154 rfl ?_
        refine J_iadd (pc1 := 156) dX2_playRound_155 rfl ?_
        refine J_put (pc1 := 159) (ty := .int) (j := 4) (fs1 := [.int (iI (f 10)), .int (iI ((f 8) - a)), .int (iI ((f 12) + a)), .int (iI ((f 14) + 1)), .int (iI ((f 16) + 1))]) inUX6 (ci := 6) rfl (by decide) tyX6 tyX6_ok nmX6 rfl (by decide +kernel) lf_X2_85 dX2_playRound_156 rfl ((pu_ne _ _ (ne_ci hg.2.2.1 hg.1 (by decide))).trans ((pu_ne _ _ (Ne.symm hg.2.2.2)).trans (pu_self _ _ _))) rfl (by rfl) (Nat.le_of_ble_eq_true rfl) rfl ?_
        refine J_iload_n (pc1 := 160) rfl (i := 3) rfl dX2_playRound_159 rfl ?_
        exact J_iret rfl rfl dX2_playRound_160 (Nat.le_refl _) (Nat.le_refl _) (⟨rfl, ⟨⟨(((pu_ne _ _ (ne_ci hg.1 hg.2.2.1 (by decide))).trans (pu_self _ _ _)).trans (gmO_c (by exact p0.symm) (by exact p1.symm) (by exact p2.symm) (by exact p3.symm) (by exact p4.symm) (by exact p5.symm) (by exact p6.symm) (by rw [p17]; unfold prF; rw [ht]; first | rw [if_pos (by omega)] | rw [if_neg (by omega)]))), (((pu_ne _ _ hg.2.2.2).trans ((pu_ne _ _ (ne_ci hg.2.1 hg.1 (by decide))).trans (pu_self _ _ _))).trans (sdO_c (by exact p9.symm) (by rw [p7]; unfold prF; rw [ht]; first | rw [if_pos (by omega)] | rw [if_neg (by omega)]) (by exact p11.symm) (by exact p13.symm) (by exact p15.symm))), ((pu_self _ _ _).trans (sdO_c (by exact p10.symm) (by rw [p8]; unfold prF; rw [ht]; first | rw [if_pos (by omega)] | rw [if_neg (by omega)]) (by rw [p12]; unfold prF; rw [ht]; first | rw [if_pos (by omega)] | rw [if_neg (by omega)]) (by exact p14.symm) (by rw [p16]; (first | rw [if_pos (Decidable.not_not.mp (bZ_0 (by assumption)))] | rw [if_neg (bZ_1 (by assumption))]); try omega))), hg.2.2.2⟩, fun x h1 h2 h3 => ((pu_ne _ _ h3).trans ((pu_ne _ _ h1).trans ((pu_ne _ _ h2).trans (pu_ne _ _ h3))))⟩⟩)
    · exact absurd hc2 (by decide)
  · refine J_iload_n (pc1 := 16) rfl (i := 1) rfl dX2_playRound_15 rfl ?_
    refine J_goto (tgt := 20) dX2_playRound_16 rfl ?_
    refine J_istore (pc1 := 22) (L1 := [some (.ref g), some (.int (iI b)), some (.int (iI a)), some (.int (iI 1)), some (.int (iI b)), none, none]) dX2_playRound_20 rfl (by decide) rfl rfl ?_
    refine J_aload_n (pc1 := 23) rfl (i := 0) rfl dX2_playRound_22 rfl ?_
    refine J_iload_n (pc1 := 24) rfl (i := 3) rfl dX2_playRound_23 rfl ?_
    refine J_callVF (pc1 := 27) (As := [.int (iI 1)]) gv_X2_57 yv_X2_sideOf rfl (c_X2_sideOf1 hg.1) dX2_playRound_24 rfl hg.1 rfl rfl (by omega) (by decide) (Nat.zero_le _) (Nat.zero_le _) (Nat.le_of_ble_eq_true rfl) ?_
    refine J_astore (pc1 := 29) (L1 := [some (.ref g), some (.int (iI b)), some (.int (iI a)), some (.int (iI 1)), some (.int (iI b)), some (.ref o), none]) dX2_playRound_27 rfl (by decide) rfl rfl ?_
    refine J_aload (pc1 := 31) rfl dX2_playRound_29 rfl ?_
    refine J_dup (pc1 := 32) rfl dX2_playRound_31 rfl ?_
    refine J_get (pc1 := 35) (j := 1) inUX6 (ci := 6) rfl (by decide) lf_X2_61 dX2_playRound_32 rfl hg.2.2.1 rfl ?_
    refine J_iload (pc1 := 37) rfl dX2_playRound_35 rfl ?_
    refine J_isub (pc1 := 38) dX2_playRound_37 rfl ?_
    refine J_put (pc1 := 41) (ty := .int) (j := 1) (fs1 := [.int (iI (f 10)), .int (iI ((f 8) - b)), .int (iI (f 12)), .int (iI (f 14)), .int (iI (f 16))]) inUX6 (ci := 6) rfl (by decide) tyX6 tyX6_ok nmX6 rfl (by decide +kernel) lf_X2_61 dX2_playRound_38 rfl hg.2.2.1 rfl (by rfl) (Nat.le_of_ble_eq_true rfl) rfl ?_
    refine J_aload (pc1 := 43) rfl dX2_playRound_41 rfl ?_
    refine J_dup (pc1 := 44) rfl dX2_playRound_43 rfl ?_
    refine J_get (pc1 := 47) (j := 2) inUX6 (ci := 6) rfl (by decide) lf_X2_76 dX2_playRound_44 rfl (pu_self _ _ _) rfl ?_
    refine J_iload (pc1 := 49) rfl dX2_playRound_47 rfl ?_
    refine J_iadd (pc1 := 50) dX2_playRound_49 rfl ?_
    refine J_put (pc1 := 53) (ty := .int) (j := 2) (fs1 := [.int (iI (f 10)), .int (iI ((f 8) - b)), .int (iI ((f 12) + b)), .int (iI (f 14)), .int (iI (f 16))]) inUX6 (ci := 6) rfl (by decide) tyX6 tyX6_ok nmX6 rfl (by decide +kernel) lf_X2_76 dX2_playRound_50 rfl (pu_self _ _ _) rfl (by rfl) (Nat.le_of_ble_eq_true rfl) rfl ?_
    rw [pu_pu]
    refine J_aload (pc1 := 55) rfl dX2_playRound_53 rfl ?_
    refine J_dup (pc1 := 56) rfl dX2_playRound_55 rfl ?_
    refine J_get (pc1 := 59) (j := 3) inUX6 (ci := 6) rfl (by decide) lf_X2_79 dX2_playRound_56 rfl (pu_self _ _ _) rfl ?_
    refine J_iconst (pc1 := 60) dX2_playRound_59 rfl ?_
    refine J_iadd (pc1 := 61) dX2_playRound_60 rfl ?_
    refine J_put (pc1 := 64) (ty := .int) (j := 3) (fs1 := [.int (iI (f 10)), .int (iI ((f 8) - b)), .int (iI ((f 12) + b)), .int (iI ((f 14) + 1)), .int (iI (f 16))]) inUX6 (ci := 6) rfl (by decide) tyX6 tyX6_ok nmX6 rfl (by decide +kernel) lf_X2_79 dX2_playRound_61 rfl (pu_self _ _ _) rfl (by rfl) (Nat.le_of_ble_eq_true rfl) rfl ?_
    rw [pu_pu]
    refine J_aload_n (pc1 := 65) rfl (i := 0) rfl dX2_playRound_64 rfl ?_
    refine J_iload (pc1 := 67) rfl dX2_playRound_65 rfl ?_
    refine J_callVI (pc1 := 70) (As := [.int (iI b)]) gv_X2_82 yv_X2_gainOf rfl (c_X2_gainOf (p := f 2) ((pu_ne _ _ (ne_ci hg.1 hg.2.2.1 (by decide))).trans hg.1) (by omega)) dX2_playRound_67 rfl ((pu_ne _ _ (ne_ci hg.1 hg.2.2.1 (by decide))).trans hg.1) rfl rfl (by omega) (by decide) (Nat.zero_le _) (Nat.zero_le _) (Nat.le_of_ble_eq_true rfl) ?_
    refine J_istore (pc1 := 72) (L1 := [some (.ref g), some (.int (iI b)), some (.int (iI a)), some (.int (iI 1)), some (.int (iI b)), some (.ref o), some (.int (iI (gaF f b)))]) dX2_playRound_70 rfl (by decide) rfl rfl ?_
    refine J_aload_n (pc1 := 73) rfl (i := 0) rfl dX2_playRound_72 rfl ?_
    refine J_iconst (pc1 := 74) dX2_playRound_73 rfl ?_
    refine J_iload_n (pc1 := 75) rfl (i := 3) rfl dX2_playRound_74 rfl ?_
    refine J_isubE (pc1 := 76) (z := 0) (by decide) dX2_playRound_75 rfl ?_
    refine J_callVF (pc1 := 79) (As := [.int (iI 0)]) gv_X2_57 yv_X2_sideOf rfl (c_X2_sideOf0 ((pu_ne _ _ (ne_ci hg.1 hg.2.2.1 (by decide))).trans hg.1)) dX2_playRound_76 rfl ((pu_ne _ _ (ne_ci hg.1 hg.2.2.1 (by decide))).trans hg.1) rfl rfl (by omega) (by decide) (Nat.zero_le _) (Nat.zero_le _) (Nat.le_of_ble_eq_true rfl) ?_
    refine J_dup (pc1 := 80) rfl dX2_playRound_79 rfl ?_
    refine J_get (pc1 := 83) (j := 1) inUX6 (ci := 6) rfl (by decide) lf_X2_61 dX2_playRound_80 rfl ((pu_ne _ _ hg.2.2.2).trans hg.2.1) rfl ?_
    refine J_iload (pc1 := 85) rfl dX2_playRound_83 rfl ?_
    refine J_iadd (pc1 := 86) dX2_playRound_85 rfl ?_
    refine J_put (pc1 := 89) (ty := .int) (j := 1) (fs1 := [.int (iI (f 9)), .int (iI ((f 7) + (gaF f b))), .int (iI (f 11)), .int (iI (f 13)), .int (iI (f 15))]) inUX6 (ci := 6) rfl (by decide) tyX6 tyX6_ok nmX6 rfl (by decide +kernel) lf_X2_61 dX2_playRound_86 rfl ((pu_ne _ _ hg.2.2.2).trans hg.2.1) rfl (by rfl) (Nat.le_of_ble_eq_true rfl) rfl ?_
    refine J_aload_n (pc1 := 90) rfl (i := 0) rfl dX2_playRound_89 rfl ?_
    refine J_dup (pc1 := 91) rfl dX2_playRound_90 rfl ?_
    refine J_get (pc1 := 94) (j := 7) inUX2 (ci := 2) rfl (by decide) lf_X2_43 dX2_playRound_91 rfl ((pu_ne _ _ (ne_ci hg.1 hg.2.1 (by decide))).trans ((pu_ne _ _ (ne_ci hg.1 hg.2.2.1 (by decide))).trans hg.1)) rfl ?_
    refine J_iload (pc1 := 96) rfl dX2_playRound_94 rfl ?_
    refine J_iload (pc1 := 98) rfl dX2_playRound_96 rfl ?_
    refine J_isub (pc1 := 99) dX2_playRound_98 rfl ?_
    refine J_iadd (pc1 := 100) dX2_playRound_99 rfl ?_
    refine J_put (pc1 := 103) (ty := .int) (j := 7) (fs1 := [.int (iI (f 0)), .int (iI (f 1)), .int (iI (f 2)), .int (iI (f 3)), .int (iI (f 4)), .int (iI (f 5)), .int (iI (f 6)), .int (iI ((f 17) + (b - (gaF f b)))), .ref z, .ref o]) inUX2 (ci := 2) rfl (by decide) tyX2 tyX2_ok nmX2 rfl (by decide +kernel) lf_X2_43 dX2_playRound_100 rfl ((pu_ne _ _ (ne_ci hg.1 hg.2.1 (by decide))).trans ((pu_ne _ _ (ne_ci hg.1 hg.2.2.1 (by decide))).trans hg.1)) rfl (by rfl) (Nat.le_of_ble_eq_true rfl) rfl ?_
    refine J_aload_n (pc1 := 104) rfl (i := 0) rfl dX2_playRound_103 rfl ?_
    refine J_dup (pc1 := 105) rfl dX2_playRound_104 rfl ?_
    refine J_get (pc1 := 108) (j := 4) inUX2 (ci := 2) rfl (by decide) lf_X2_34 dX2_playRound_105 rfl (pu_self _ _ _) rfl ?_
    refine J_iload_n (pc1 := 109) rfl (i := 3) rfl dX2_playRound_108 rfl ?_
    refine J_if_ne (pc1 := 112) (tgt := 116) (by decide) (by decide) dX2_playRound_109 rfl rfl (fun hc4 => ?_) (fun hc4 => ?_)
    · refine J_iconst (pc1 := 117) dX2_playRound_116 rfl ?_
      refine J_iadd (pc1 := 118) dX2_playRound_117 rfl ?_
      refine J_put (pc1 := 121) (ty := .int) (j := 4) (fs1 := [.int (iI (f 0)), .int (iI (f 1)), .int (iI (f 2)), .int (iI (f 3)), .int (iI ((f 4) + (-1))), .int (iI (f 5)), .int (iI (f 6)), .int (iI ((f 17) + (b - (gaF f b)))), .ref z, .ref o]) inUX2 (ci := 2) rfl (by decide) tyX2 tyX2_ok nmX2 rfl (by decide +kernel) lf_X2_34 dX2_playRound_118 rfl (pu_self _ _ _) rfl (by rfl) (Nat.le_of_ble_eq_true rfl) rfl ?_
      rw [pu_pu]
      refine J_aload_n (pc1 := 122) rfl (i := 0) rfl dX2_playRound_121 rfl ?_
      refine J_iconst (pc1 := 123) dX2_playRound_122 rfl ?_
      refine J_aload_n (pc1 := 124) rfl (i := 0) rfl dX2_playRound_123 rfl ?_
      refine J_get (pc1 := 127) (j := 5) inUX2 (ci := 2) rfl (by decide) lf_X2_37 dX2_playRound_124 rfl (pu_self _ _ _) rfl ?_
      refine J_isub (pc1 := 128) dX2_playRound_127 rfl ?_
      refine J_put (pc1 := 131) (ty := .int) (j := 5) (fs1 := [.int (iI (f 0)), .int (iI (f 1)), .int (iI (f 2)), .int (iI (f 3)), .int (iI ((f 4) + (-1))), .int (iI (1 - (f 5))), .int (iI (f 6)), .int (iI ((f 17) + (b - (gaF f b)))), .ref z, .ref o]) inUX2 (ci := 2) rfl (by decide) tyX2 tyX2_ok nmX2 rfl (by decide +kernel) lf_X2_37 dX2_playRound_128 rfl (pu_self _ _ _) rfl (by rfl) (Nat.le_of_ble_eq_true rfl) rfl ?_
      rw [pu_pu]
      refine J_aload_n (pc1 := 132) rfl (i := 0) rfl dX2_playRound_131 rfl ?_
      refine J_dup (pc1 := 133) rfl dX2_playRound_132 rfl ?_
      refine J_get (pc1 := 136) (j := 6) inUX2 (ci := 2) rfl (by decide) lf_X2_40 dX2_playRound_133 rfl (pu_self _ _ _) rfl ?_
      refine J_iconst (pc1 := 137) dX2_playRound_136 rfl ?_
      refine J_iadd (pc1 := 138) dX2_playRound_137 rfl ?_
      refine J_put (pc1 := 141) (ty := .int) (j := 6) (fs1 := [.int (iI (f 0)), .int (iI (f 1)), .int (iI (f 2)), .int (iI (f 3)), .int (iI ((f 4) + (-1))), .int (iI (1 - (f 5))), .int (iI ((f 6) + 1)), .int (iI ((f 17) + (b - (gaF f b)))), .ref z, .ref o]) inUX2 (ci := 2) rfl (by decide) tyX2 tyX2_ok nmX2 rfl (by decide +kernel) lf_X2_40 dX2_playRound_138 rfl (pu_self _ _ _) rfl (by rfl) (Nat.le_of_ble_eq_true rfl) rfl ?_
      rw [pu_pu]
      refine J_aload_n (pc1 := 142) rfl (i := 0) rfl dX2_playRound_141 rfl ?_
      refine J_callVI (pc1 := 145) (As := []) gv_X2_64 yv_X2_isOver rfl (c_X2_isOver (e := f 0) (h := (f 4) + (-1)) (pu_self _ _ _) (by omega) (by omega)) dX2_playRound_142 rfl (pu_self _ _ _) rfl rfl (by omega) (by decide) (Nat.zero_le _) (Nat.zero_le _) (Nat.le_of_ble_eq_true rfl) ?_
      refine J_if_eq (pc1 := 148) (tgt := 159) (bZ_lo _) (bZ_hi _) dX2_playRound_145 rfl rfl (fun hc5 => ?_) (fun hc5 => ?_)
      · refine J_iload_n (pc1 := 160) rfl (i := 3) rfl dX2_playRound_159 rfl ?_
        exact J_iret rfl rfl dX2_playRound_160 (Nat.le_refl _) (Nat.le_refl _) (⟨rfl, ⟨⟨((pu_self _ _ _).trans (gmO_c (by exact p0.symm) (by exact p1.symm) (by exact p2.symm) (by exact p3.symm) (by exact p4.symm) (by exact p5.symm) (by exact p6.symm) (by rw [p17]; unfold prF; rw [ht]; first | rw [if_pos (by omega)] | rw [if_neg (by omega)]))), (((pu_ne _ _ (ne_ci hg.2.1 hg.1 (by decide))).trans (pu_self _ _ _)).trans (sdO_c (by exact p9.symm) (by rw [p7]; unfold prF; rw [ht]; first | rw [if_pos (by omega)] | rw [if_neg (by omega)]) (by exact p11.symm) (by exact p13.symm) (by exact p15.symm))), (((pu_ne _ _ (ne_ci hg.2.2.1 hg.1 (by decide))).trans ((pu_ne _ _ (Ne.symm hg.2.2.2)).trans (pu_self _ _ _))).trans (sdO_c (by exact p10.symm) (by rw [p8]; unfold prF; rw [ht]; first | rw [if_pos (by omega)] | rw [if_neg (by omega)]) (by rw [p12]; unfold prF; rw [ht]; first | rw [if_pos (by omega)] | rw [if_neg (by omega)]) (by exact p14.symm) (by rw [p16]; (first | rw [if_pos (Decidable.not_not.mp (bZ_0 (by assumption)))] | rw [if_neg (bZ_1 (by assumption))]); try omega))), hg.2.2.2⟩, fun x h1 h2 h3 => ((pu_ne _ _ h1).trans ((pu_ne _ _ h2).trans (pu_ne _ _ h3)))⟩⟩)
      · refine J_aload (pc1 := 150) rfl dX2_playRound_148 rfl ?_
        refine J_dup (pc1 := 151) rfl dX2_playRound_150 rfl ?_
        refine J_get (pc1 := 154) (j := 4) inUX6 (ci := 6) rfl (by decide) lf_X2_85 dX2_playRound_151 rfl ((pu_ne _ _ (ne_ci hg.2.2.1 hg.1 (by decide))).trans ((pu_ne _ _ (Ne.symm hg.2.2.2)).trans (pu_self _ _ _))) rfl ?_
        refine J_iconst (pc1 := 155) dX2_playRound_154 rfl ?_
        refine J_iadd (pc1 := 156) dX2_playRound_155 rfl ?_
        refine J_put (pc1 := 159) (ty := .int) (j := 4) (fs1 := [.int (iI (f 10)), .int (iI ((f 8) - b)), .int (iI ((f 12) + b)), .int (iI ((f 14) + 1)), .int (iI ((f 16) + 1))]) inUX6 (ci := 6) rfl (by decide) tyX6 tyX6_ok nmX6 rfl (by decide +kernel) lf_X2_85 dX2_playRound_156 rfl ((pu_ne _ _ (ne_ci hg.2.2.1 hg.1 (by decide))).trans ((pu_ne _ _ (Ne.symm hg.2.2.2)).trans (pu_self _ _ _))) rfl (by rfl) (Nat.le_of_ble_eq_true rfl) rfl ?_
        refine J_iload_n (pc1 := 160) rfl (i := 3) rfl dX2_playRound_159 rfl ?_
        exact J_iret rfl rfl dX2_playRound_160 (Nat.le_refl _) (Nat.le_refl _) (⟨rfl, ⟨⟨(((pu_ne _ _ (ne_ci hg.1 hg.2.2.1 (by decide))).trans (pu_self _ _ _)).trans (gmO_c (by exact p0.symm) (by exact p1.symm) (by exact p2.symm) (by exact p3.symm) (by exact p4.symm) (by exact p5.symm) (by exact p6.symm) (by rw [p17]; unfold prF; rw [ht]; first | rw [if_pos (by omega)] | rw [if_neg (by omega)]))), (((pu_ne _ _ hg.2.2.2).trans ((pu_ne _ _ (ne_ci hg.2.1 hg.1 (by decide))).trans (pu_self _ _ _))).trans (sdO_c (by exact p9.symm) (by rw [p7]; unfold prF; rw [ht]; first | rw [if_pos (by omega)] | rw [if_neg (by omega)]) (by exact p11.symm) (by exact p13.symm) (by exact p15.symm))), ((pu_self _ _ _).trans (sdO_c (by exact p10.symm) (by rw [p8]; unfold prF; rw [ht]; first | rw [if_pos (by omega)] | rw [if_neg (by omega)]) (by rw [p12]; unfold prF; rw [ht]; first | rw [if_pos (by omega)] | rw [if_neg (by omega)]) (by exact p14.symm) (by rw [p16]; (first | rw [if_pos (Decidable.not_not.mp (bZ_0 (by assumption)))] | rw [if_neg (bZ_1 (by assumption))]); try omega))), hg.2.2.2⟩, fun x h1 h2 h3 => ((pu_ne _ _ h3).trans ((pu_ne _ _ h1).trans ((pu_ne _ _ h2).trans (pu_ne _ _ h3))))⟩⟩)
    · exact absurd hc4 (by decide)
/-- Game.playRound -/
theorem c_X2_playRound {S : pS} {g z o : Nat} {f : Int → Int} (hg : IsG S g z o f) (ok : okF f) {b a : Int} (hb : 0 ≤ b ∧ b ≤ 16) (ha : 0 ≤ a ∧ a ≤ 16) : Ct yX2_playRound cX2_playRound 7 (Option.some FieldType.int) 2 0 0 [.ref g, .int (iI b), .int (iI a)] S (kIS (tkF f b a) (UG S g z o (plF f b a))) := by
  rcases tkF_b ok b a with ht | ht
  · rw [ht]
    exact c_X2_playRound0 hg ok hb ha ht
  · rw [ht]
    exact c_X2_playRound1 hg ok hb ha ht
