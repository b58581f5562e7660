/-! 25.mset: set, begin, round, undo, save, restore, wipe of the reference -/
set_option maxHeartbeats 1000000 in
set_option maxRecDepth 20000 in
theorem c_X10_set {S : pS} {B : Nat → Nat} {f f1 f2 : Int → Int} {b0 b1 : Int} {n : Nat} {H : Nat → Int → Int} {tx : Int → Int} {L : Nat} (hM : MS S B f f1 f2 b0 b1 n H tx L) (ok : okX f f1 f2 b0 b1 n H) {k v : Int} (hk : -2147483648 ≤ k ∧ k < 2147483648) (hv : -2147483648 ≤ v ∧ v < 2147483648) : Ct yX10_set cX10_set 4 (Option.some FieldType.int) 2 0 0 [.ref (B 0), .int (iI k), .int (iI v)] S (KOR ((0 ≤ k ∧ k ≤ 3) ∧ (if k = 0 then 1 else 0) ≤ v ∧ v ≤ (if k = 0 then 3 else if k = 1 then 2 else 1)) (-1002) (f k) S (fun T => MS T B (newF (uZ f k v)) f1 f2 b0 b1 (kpN n) (kpH n f H) tx L ∧ frM S T B)) := by
  have hM9 := hM
  obtain ⟨hs, sl, sv, ti, to, ik, kr, ks, sp, nu, rd, W, hH, hm0, hm1, hv0, hv1, hC⟩ := hM
  have okf := ok.1
  have hn6 := ok.2.2.2.2.2.1
  refine Ct.ofJ (by decide +kernel) (Nat.le_of_ble_eq_true rfl) ?_
  refine J_L (L1 := [some (.ref (B 0)), some (.int (iI k)), some (.int (iI v)), none]) rfl ?_
  refine J_iload_n (pc1 := 1) rfl (i := 1) rfl dX10_set_0 rfl ?_
  refine J_iload_n (pc1 := 2) rfl (i := 2) rfl dX10_set_1 rfl ?_
  refine J_callSI (pc1 := 5) (As := [.int (iI k), .int (iI v)]) gs_X10_101 yv_X10_isSetting (c_X10_isSetting (s := k) (v := v) (by omega) (by omega)) dX10_set_2 rfl rfl rfl (by omega) (by decide) (by omega) (by omega) (Nat.le_of_ble_eq_true rfl) ?_
  refine J_if_ne (pc1 := 8) (tgt := 12) (bC_lo _) (bC_hi _) dX10_set_5 rfl rfl (fun hc1 => ?_) (fun hc1 => ?_)
  · have hok : okS k v := bC_1 (by assumption)
    have hk0 := hok.1
    refine J_aload_n (pc1 := 13) rfl (i := 0) rfl dX10_set_12 rfl ?_
    refine J_callVNs (pc1 := 16) (As := []) gv_X10_105 yv_X10_changes rfl (c_X10_changes ⟨W.1, W.2.1, W.2.2.1, W.2.2.2.1, W.2.2.2.2.1, W.2.2.2.2.2.1, W.2.2.2.2.2.2.1, W.2.2.2.2.2.2.2⟩ hn6 hH) dX10_set_13 rfl W.1 rfl rfl (by omega) (by decide) (by omega) (by omega) (Nat.le_of_ble_eq_true rfl) (fun T1 hT1 => ?_)
    obtain ⟨hs1, W1, hH1, r1⟩ := hT1
    refine J_aload_n (pc1 := 17) rfl (i := 0) rfl dX10_set_16 rfl ?_
    refine J_get (pc1 := 20) (j := 0) inUX10 (ci := 10) rfl (by decide) lf_X10_7 dX10_set_17 rfl W1.1 rfl ?_
    refine J_iload_n (pc1 := 21) rfl (i := 1) rfl dX10_set_20 rfl ?_
    refine J_iald (pc1 := 22) dX10_set_21 rfl W1.2.1 (by omega) (by omega) (by omega) ?_
    refine J_istore_n (pc1 := 23) (L1 := [some (.ref (B 0)), some (.int (iI k)), some (.int (iI v)), some (.int (iI (f k)))]) rfl (i := 3) dX10_set_22 rfl (by decide) rfl rfl ?_
    refine J_aload_n (pc1 := 24) rfl (i := 0) rfl dX10_set_23 rfl ?_
    refine J_get (pc1 := 27) (j := 0) inUX10 (ci := 10) rfl (by decide) lf_X10_7 dX10_set_24 rfl W1.1 rfl ?_
    refine J_iload_n (pc1 := 28) rfl (i := 1) rfl dX10_set_27 rfl ?_
    refine J_iload_n (pc1 := 29) rfl (i := 2) rfl dX10_set_28 rfl ?_
    refine J_iast (pc1 := 30) dX10_set_29 rfl W1.2.1 (by omega) (by omega) (by omega) ?_
    refine J_aload_n (pc1 := 31) rfl (i := 0) rfl dX10_set_30 rfl ?_
    refine J_callVNs (pc1 := 34) (As := []) gv_X10_31 yv_X10_newGame rfl (c_X10_newGame ⟨((pu_ne _ _ (ne_OI W1.1 W1.2.1)).trans W1.1), (pu_self _ _ _), ((pu_ne _ _ (ne_II W1.2.2.1 W1.2.1 (by decide))).trans W1.2.2.1), ((pu_ne _ _ (ne_II W1.2.2.2.1 W1.2.1 (by decide))).trans W1.2.2.2.1), ((pu_ne _ _ (ne_II W1.2.2.2.2.1 W1.2.1 (by decide))).trans W1.2.2.2.2.1), ((pu_ne _ _ (ne_II W1.2.2.2.2.2.1 W1.2.1 (by decide))).trans W1.2.2.2.2.2.1), ((pu_ne _ _ (ne_II W1.2.2.2.2.2.2.1 W1.2.1 (by decide))).trans W1.2.2.2.2.2.2.1), ((pu_ne _ _ (ne_II W1.2.2.2.2.2.2.2 W1.2.1 (by decide))).trans W1.2.2.2.2.2.2.2)⟩) dX10_set_31 rfl ((pu_ne _ _ (ne_OI W1.1 W1.2.1)).trans W1.1) rfl rfl (by omega) (by decide) (by omega) (by omega) (Nat.le_of_ble_eq_true rfl) (fun T2 hT2 => ?_)
    obtain ⟨W2, r2⟩ := hT2
    refine J_iload_n (pc1 := 35) rfl (i := 3) rfl dX10_set_34 rfl ?_
    exact J_iret rfl rfl dX10_set_35 (Nat.le_refl _) (Nat.le_refl _) (KOR_1 hok rfl ⟨⟨hs1, sl, sv, ti, to, ik, kr, ks, sp, nu, rd, ⟨W2.1, W2.2.1, W2.2.2.1, W2.2.2.2.1, W2.2.2.2.2.1, W2.2.2.2.2.2.1, W2.2.2.2.2.2.2.1, W2.2.2.2.2.2.2.2⟩, hH1, hm0, hm1, hv0, hv1, hC⟩, frM.tr (frM.tr (r1) (fun x h0 h1 h2 h3 h4 h5 h6 h7 => (pu_ne _ _ h1))) (r2)⟩)
  · refine J_sipush (pc1 := 11) (by decide) dX10_set_8 rfl ?_
    exact J_iret rfl rfl dX10_set_11 (Nat.le_refl _) (Nat.le_refl _) (KOR_0 (bC_0 (by assumption)) rfl)
set_option maxHeartbeats 1000000 in
set_option maxRecDepth 20000 in
theorem c_X10_begin {S : pS} {B : Nat → Nat} {f f1 f2 : Int → Int} {b0 b1 : Int} {n : Nat} {H : Nat → Int → Int} {tx : Int → Int} {L : Nat} (hM : MS S B f f1 f2 b0 b1 n H tx L) (ok : okX f f1 f2 b0 b1 n H) {a b : Int} (ha : -2147483648 ≤ a ∧ a < 2147483648) (hb : -2147483648 ≤ b ∧ b < 2147483648) : Ct yX10_begin cX10_begin 4 (Option.some FieldType.int) 2 0 0 [.ref (B 0), .int (iI a), .int (iI b)] S (KOR ((0 ≤ a ∧ a ≤ 6) ∧ 0 ≤ b ∧ b ≤ 6) (-1002) (f 6) S (fun T => MS T B (newF (uZ (uZ f 9 a) 10 b)) f1 f2 b0 b1 (kpN n) (kpH n f H) tx L ∧ frM S T B)) := by
  have hM9 := hM
  obtain ⟨hs, sl, sv, ti, to, ik, kr, ks, sp, nu, rd, W, hH, hm0, hm1, hv0, hv1, hC⟩ := hM
  have okf := ok.1
  have hn6 := ok.2.2.2.2.2.1
  refine Ct.ofJ (by decide +kernel) (Nat.le_of_ble_eq_true rfl) ?_
  refine J_L (L1 := [some (.ref (B 0)), some (.int (iI a)), some (.int (iI b)), none]) rfl ?_
  refine J_iload_n (pc1 := 1) rfl (i := 1) rfl dX10_begin_0 rfl ?_
  refine J_i2l (pc1 := 2) dX10_begin_1 rfl ?_
  refine J_lconst (pc1 := 3) (v := 0) (by decide) dX10_begin_2 rfl ?_
  refine J_ldc2 (pc1 := 6) lq_X10_108 dX10_begin_3 rfl ?_
  refine J_callSI (pc1 := 9) (As := [.long (iI a).toInt64, .long 0, .long (6 : Int64)]) gs_X10_95 yv_X10_in (c_X10_in (v := a) (lo := 0) (hi := 6) (i2l_i (by omega)) (by decide) (by decide)) dX10_begin_6 rfl rfl rfl (by omega) (by decide) (by omega) (by omega) (Nat.le_of_ble_eq_true rfl) ?_
  refine J_if_eq (pc1 := 12) (tgt := 24) (bC_lo _) (bC_hi _) dX10_begin_9 rfl rfl (fun hc1 => ?_) (fun hc1 => ?_)
  · refine J_sipush (pc1 := 27) (by decide) dX10_begin_24 rfl ?_
    exact J_iret rfl rfl dX10_begin_27 (Nat.le_refl _) (Nat.le_refl _) (KOR_0 (fun z => by first | exact bC_0 (by assumption) z.1 | exact bC_0 (by assumption) z.2) rfl)
  · refine J_iload_n (pc1 := 13) rfl (i := 2) rfl dX10_begin_12 rfl ?_
    refine J_i2l (pc1 := 14) dX10_begin_13 rfl ?_
    refine J_lconst (pc1 := 15) (v := 0) (by decide) dX10_begin_14 rfl ?_
    refine J_ldc2 (pc1 := 18) lq_X10_108 dX10_begin_15 rfl ?_
    refine J_callSI (pc1 := 21) (As := [.long (iI b).toInt64, .long 0, .long (6 : Int64)]) gs_X10_95 yv_X10_in (c_X10_in (v := b) (lo := 0) (hi := 6) (i2l_i (by omega)) (by decide) (by decide)) dX10_begin_18 rfl rfl rfl (by omega) (by decide) (by omega) (by omega) (Nat.le_of_ble_eq_true rfl) ?_
    refine J_if_ne (pc1 := 24) (tgt := 28) (bC_lo _) (bC_hi _) dX10_begin_21 rfl rfl (fun hc2 => ?_) (fun hc2 => ?_)
    · have ha6 : 0 ≤ a ∧ a ≤ 6 := bC_1 (by assumption)
      have hb6 : 0 ≤ b ∧ b ≤ 6 := bC_1 (by assumption)
      refine J_aload_n (pc1 := 29) rfl (i := 0) rfl dX10_begin_28 rfl ?_
      refine J_callVNs (pc1 := 32) (As := []) gv_X10_105 yv_X10_changes rfl (c_X10_changes ⟨W.1, W.2.1, W.2.2.1, W.2.2.2.1, W.2.2.2.2.1, W.2.2.2.2.2.1, W.2.2.2.2.2.2.1, W.2.2.2.2.2.2.2⟩ hn6 hH) dX10_begin_29 rfl W.1 rfl rfl (by omega) (by decide) (by omega) (by omega) (Nat.le_of_ble_eq_true rfl) (fun T1 hT1 => ?_)
      obtain ⟨hs1, W1, hH1, r1⟩ := hT1
      refine J_aload_n (pc1 := 33) rfl (i := 0) rfl dX10_begin_32 rfl ?_
      refine J_get (pc1 := 36) (j := 0) inUX10 (ci := 10) rfl (by decide) lf_X10_7 dX10_begin_33 rfl W1.1 rfl ?_
      refine J_bipush (pc1 := 38) (by decide) dX10_begin_36 rfl ?_
      refine J_iald (pc1 := 39) dX10_begin_38 rfl W1.2.1 (by omega) (by omega) (by omega) ?_
      refine J_istore_n (pc1 := 40) (L1 := [some (.ref (B 0)), some (.int (iI a)), some (.int (iI b)), some (.int (iI (f 6)))]) rfl (i := 3) dX10_begin_39 rfl (by decide) rfl rfl ?_
      refine J_aload_n (pc1 := 41) rfl (i := 0) rfl dX10_begin_40 rfl ?_
      refine J_get (pc1 := 44) (j := 0) inUX10 (ci := 10) rfl (by decide) lf_X10_7 dX10_begin_41 rfl W1.1 rfl ?_
      refine J_bipush (pc1 := 46) (by decide) dX10_begin_44 rfl ?_
      refine J_iload_n (pc1 := 47) rfl (i := 1) rfl dX10_begin_46 rfl ?_
      refine J_iast (pc1 := 48) dX10_begin_47 rfl W1.2.1 (by omega) (by omega) (by omega) ?_
      refine J_aload_n (pc1 := 49) rfl (i := 0) rfl dX10_begin_48 rfl ?_
      refine J_get (pc1 := 52) (j := 0) inUX10 (ci := 10) rfl (by decide) lf_X10_7 dX10_begin_49 rfl ((pu_ne _ _ (ne_OI W1.1 W1.2.1)).trans W1.1) rfl ?_
      refine J_bipush (pc1 := 54) (by decide) dX10_begin_52 rfl ?_
      refine J_iload_n (pc1 := 55) rfl (i := 2) rfl dX10_begin_54 rfl ?_
      refine J_iast (pc1 := 56) dX10_begin_55 rfl (pu_self _ _ _) (by omega) (by omega) (by omega) ?_
      rw [pu_pu]
      refine J_aload_n (pc1 := 57) rfl (i := 0) rfl dX10_begin_56 rfl ?_
      refine J_callVNs (pc1 := 60) (As := []) gv_X10_31 yv_X10_newGame rfl (c_X10_newGame ⟨((pu_ne _ _ (ne_OI W1.1 W1.2.1)).trans W1.1), (pu_self _ _ _), ((pu_ne _ _ (ne_II W1.2.2.1 W1.2.1 (by decide))).trans W1.2.2.1), ((pu_ne _ _ (ne_II W1.2.2.2.1 W1.2.1 (by decide))).trans W1.2.2.2.1), ((pu_ne _ _ (ne_II W1.2.2.2.2.1 W1.2.1 (by decide))).trans W1.2.2.2.2.1), ((pu_ne _ _ (ne_II W1.2.2.2.2.2.1 W1.2.1 (by decide))).trans W1.2.2.2.2.2.1), ((pu_ne _ _ (ne_II W1.2.2.2.2.2.2.1 W1.2.1 (by decide))).trans W1.2.2.2.2.2.2.1), ((pu_ne _ _ (ne_II W1.2.2.2.2.2.2.2 W1.2.1 (by decide))).trans W1.2.2.2.2.2.2.2)⟩) dX10_begin_57 rfl ((pu_ne _ _ (ne_OI W1.1 W1.2.1)).trans W1.1) rfl rfl (by omega) (by decide) (by omega) (by omega) (Nat.le_of_ble_eq_true rfl) (fun T2 hT2 => ?_)
      obtain ⟨W2, r2⟩ := hT2
      refine J_iload_n (pc1 := 61) rfl (i := 3) rfl dX10_begin_60 rfl ?_
      exact J_iret rfl rfl dX10_begin_61 (Nat.le_refl _) (Nat.le_refl _) (KOR_1 ⟨ha6, hb6⟩ rfl ⟨⟨hs1, sl, sv, ti, to, ik, kr, ks, sp, nu, rd, ⟨W2.1, W2.2.1, W2.2.2.1, W2.2.2.2.1, W2.2.2.2.2.1, W2.2.2.2.2.2.1, W2.2.2.2.2.2.2.1, W2.2.2.2.2.2.2.2⟩, hH1, hm0, hm1, hv0, hv1, hC⟩, frM.tr (frM.tr (r1) (fun x h0 h1 h2 h3 h4 h5 h6 h7 => (pu_ne _ _ h1))) (r2)⟩)
    · refine J_sipush (pc1 := 27) (by decide) dX10_begin_24 rfl ?_
      exact J_iret rfl rfl dX10_begin_27 (Nat.le_refl _) (Nat.le_refl _) (KOR_0 (fun z => by first | exact bC_0 (by assumption) z.1 | exact bC_0 (by assumption) z.2) rfl)
set_option maxHeartbeats 1000000 in
set_option maxRecDepth 20000 in
theorem c_X10_round {S : pS} {B : Nat → Nat} {f f1 f2 : Int → Int} {b0 b1 : Int} {n : Nat} {H : Nat → Int → Int} {tx : Int → Int} {L : Nat} (hM : MS S B f f1 f2 b0 b1 n H tx L) (ok : okX f f1 f2 b0 b1 n H) {b a : Int} (hb : -2147483648 ≤ b ∧ b < 2147483648) (ha : -2147483648 ≤ a ∧ a < 2147483648) : Ct yX10_round cX10_round 3 (Option.some FieldType.int) 3 0 0 [.ref (B 0), .int (iI b), .int (iI a)] S (KOR (((0 ≤ b ∧ b ≤ 14) ∧ (0 ≤ a ∧ a ≤ 14)) ∧ alF f b a) (if ((0 ≤ b ∧ b ≤ 14) ∧ (0 ≤ a ∧ a ≤ 14)) then -1005 else -1002) (tkF f b a) S (fun T => MS T B (plF f b a) f1 f2 b0 b1 (kpN n) (kpH n f H) tx L ∧ frM S T B)) := by
  have hM9 := hM
  obtain ⟨hs, sl, sv, ti, to, ik, kr, ks, sp, nu, rd, W, hH, hm0, hm1, hv0, hv1, hC⟩ := hM
  have okf := ok.1
  have hn6 := ok.2.2.2.2.2.1
  refine Ct.ofJ (by decide +kernel) (Nat.le_of_ble_eq_true rfl) ?_
  refine J_L (L1 := [some (.ref (B 0)), some (.int (iI b)), some (.int (iI a))]) rfl ?_
  refine J_iload_n (pc1 := 1) rfl (i := 1) rfl dX10_round_0 rfl ?_
  refine J_i2l (pc1 := 2) dX10_round_1 rfl ?_
  refine J_lconst (pc1 := 3) (v := 0) (by decide) dX10_round_2 rfl ?_
  refine J_ldc2 (pc1 := 6) lq_X10_110 dX10_round_3 rfl ?_
  refine J_callSI (pc1 := 9) (As := [.long (iI b).toInt64, .long 0, .long (14 : Int64)]) gs_X10_95 yv_X10_in (c_X10_in (v := b) (lo := 0) (hi := 14) (i2l_i (by omega)) (by decide) (by decide)) dX10_round_6 rfl rfl rfl (by omega) (by decide) (by omega) (by omega) (Nat.le_of_ble_eq_true rfl) ?_
  refine J_if_eq (pc1 := 12) (tgt := 24) (bC_lo _) (bC_hi _) dX10_round_9 rfl rfl (fun hc1 => ?_) (fun hc1 => ?_)
  · refine J_sipush (pc1 := 27) (by decide) dX10_round_24 rfl ?_
    exact J_iret rfl rfl dX10_round_27 (Nat.le_refl _) (Nat.le_refl _) (KOR_0 (fun z => by first | exact bC_0 (by assumption) z.1.1 | exact bC_0 (by assumption) z.1.2) (by rw [if_neg (fun z => by first | exact bC_0 (by assumption) z.1 | exact bC_0 (by assumption) z.2)]))
  · refine J_iload_n (pc1 := 13) rfl (i := 2) rfl dX10_round_12 rfl ?_
    refine J_i2l (pc1 := 14) dX10_round_13 rfl ?_
    refine J_lconst (pc1 := 15) (v := 0) (by decide) dX10_round_14 rfl ?_
    refine J_ldc2 (pc1 := 18) lq_X10_110 dX10_round_15 rfl ?_
    refine J_callSI (pc1 := 21) (As := [.long (iI a).toInt64, .long 0, .long (14 : Int64)]) gs_X10_95 yv_X10_in (c_X10_in (v := a) (lo := 0) (hi := 14) (i2l_i (by omega)) (by decide) (by decide)) dX10_round_18 rfl rfl rfl (by omega) (by decide) (by omega) (by omega) (Nat.le_of_ble_eq_true rfl) ?_
    refine J_if_ne (pc1 := 24) (tgt := 28) (bC_lo _) (bC_hi _) dX10_round_21 rfl rfl (fun hc2 => ?_) (fun hc2 => ?_)
    · have hb14 : 0 ≤ b ∧ b ≤ 14 := bC_1 (by assumption)
      have ha14 : 0 ≤ a ∧ a ≤ 14 := bC_1 (by assumption)
      refine J_aload_n (pc1 := 29) rfl (i := 0) rfl dX10_round_28 rfl ?_
      refine J_iload_n (pc1 := 30) rfl (i := 1) rfl dX10_round_29 rfl ?_
      refine J_iload_n (pc1 := 31) rfl (i := 2) rfl dX10_round_30 rfl ?_
      refine J_callVI (pc1 := 34) (As := [.int (iI b), .int (iI a)]) gv_X10_112 yv_X10_canPlay rfl (c_X10_canPlay ⟨W.1, W.2.1, W.2.2.1, W.2.2.2.1, W.2.2.2.2.1, W.2.2.2.2.2.1, W.2.2.2.2.2.2.1, W.2.2.2.2.2.2.2⟩ okf (b := b) (a := a) (by omega) (by omega)) dX10_round_31 rfl W.1 rfl rfl (by omega) (by decide) (by omega) (by omega) (Nat.le_of_ble_eq_true rfl) ?_
      refine J_if_ne (pc1 := 37) (tgt := 41) (bZ_lo _) (bZ_hi _) dX10_round_34 rfl rfl (fun hc3 => ?_) (fun hc3 => ?_)
      · have hal : alF f b a := bZ_1 (P := winF f = -1006 ∧ b ≤ moF f (f 5) ∧ a ≤ moF f (1 - f 5)) (by assumption)
        refine J_aload_n (pc1 := 42) rfl (i := 0) rfl dX10_round_41 rfl ?_
        refine J_callVNs (pc1 := 45) (As := []) gv_X10_105 yv_X10_changes rfl (c_X10_changes ⟨W.1, W.2.1, W.2.2.1, W.2.2.2.1, W.2.2.2.2.1, W.2.2.2.2.2.1, W.2.2.2.2.2.2.1, W.2.2.2.2.2.2.2⟩ hn6 hH) dX10_round_42 rfl W.1 rfl rfl (by omega) (by decide) (by omega) (by omega) (Nat.le_of_ble_eq_true rfl) (fun T1 hT1 => ?_)
        obtain ⟨hs1, W1, hH1, r1⟩ := hT1
        refine J_aload_n (pc1 := 46) rfl (i := 0) rfl dX10_round_45 rfl ?_
        refine J_iload_n (pc1 := 47) rfl (i := 1) rfl dX10_round_46 rfl ?_
        refine J_iload_n (pc1 := 48) rfl (i := 2) rfl dX10_round_47 rfl ?_
        refine J_callVIs (pc1 := 51) (As := [.int (iI b), .int (iI a)]) gv_X10_115 yv_X10_plays rfl (c_X10_plays ⟨W1.1, W1.2.1, W1.2.2.1, W1.2.2.2.1, W1.2.2.2.2.1, W1.2.2.2.2.2.1, W1.2.2.2.2.2.2.1, W1.2.2.2.2.2.2.2⟩ okf (b := b) (a := a) (by omega) (by omega) hal) dX10_round_48 rfl W1.1 rfl rfl (by omega) (by decide) (by omega) (by omega) (Nat.le_of_ble_eq_true rfl) (fun T2 hT2 => ?_)
        obtain ⟨W2, r2⟩ := hT2
        exact J_iret rfl rfl dX10_round_51 (Nat.le_refl _) (Nat.le_refl _) (KOR_1 ⟨⟨hb14, ha14⟩, hal⟩ rfl ⟨⟨hs1, sl, sv, ti, to, ik, kr, ks, sp, nu, rd, ⟨W2.1, W2.2.1, W2.2.2.1, W2.2.2.2.1, W2.2.2.2.2.1, W2.2.2.2.2.2.1, W2.2.2.2.2.2.2.1, W2.2.2.2.2.2.2.2⟩, hH1, hm0, hm1, hv0, hv1, hC⟩, frM.tr (r1) (r2)⟩)
      · refine J_sipush (pc1 := 40) (by decide) dX10_round_37 rfl ?_
        exact J_iret rfl rfl dX10_round_40 (Nat.le_refl _) (Nat.le_refl _) (KOR_0 (fun z => bZ_0 (P := winF f = -1006 ∧ b ≤ moF f (f 5) ∧ a ≤ moF f (1 - f 5)) (by assumption) z.2) (by rw [if_pos ⟨hb14, ha14⟩]))
    · refine J_sipush (pc1 := 27) (by decide) dX10_round_24 rfl ?_
      exact J_iret rfl rfl dX10_round_27 (Nat.le_refl _) (Nat.le_refl _) (KOR_0 (fun z => by first | exact bC_0 (by assumption) z.1.1 | exact bC_0 (by assumption) z.1.2) (by rw [if_neg (fun z => by first | exact bC_0 (by assumption) z.1 | exact bC_0 (by assumption) z.2)]))
set_option maxHeartbeats 1000000 in
set_option maxRecDepth 20000 in
theorem c_X10_wipe {S : pS} {B : Nat → Nat} {f f1 f2 : Int → Int} {b0 b1 : Int} {n : Nat} {H : Nat → Int → Int} {tx : Int → Int} {L : Nat} (hM : MS S B f f1 f2 b0 b1 n H tx L) (ok : okX f f1 f2 b0 b1 n H)  : Ct yX10_wipe cX10_wipe 2 (Option.some FieldType.int) 0 0 0 [.ref (B 0)] S (kIS (L : Int) (fun T => MS T B f f1 f2 b0 b1 n H tx 0 ∧ frM S T B)) := by
  have hM9 := hM
  obtain ⟨hs, sl, sv, ti, to, ik, kr, ks, sp, nu, rd, W, hH, hm0, hm1, hv0, hv1, hC⟩ := hM
  have okf := ok.1
  have hn6 := ok.2.2.2.2.2.1
  refine Ct.ofJ (by decide +kernel) (Nat.le_of_ble_eq_true rfl) ?_
  refine J_L (L1 := [some (.ref (B 0)), none]) rfl ?_
  refine J_aload_n (pc1 := 1) rfl (i := 0) rfl dX10_wipe_0 rfl ?_
  refine J_get (pc1 := 4) (j := 10) inUX10 (ci := 10) rfl (by decide) lf_X10_132 dX10_wipe_1 rfl W.1 rfl ?_
  refine J_istore_n (pc1 := 5) (L1 := [some (.ref (B 0)), some (.int (iI (L : Int)))]) rfl (i := 1) dX10_wipe_4 rfl (by decide) rfl rfl ?_
  refine J_aload_n (pc1 := 6) rfl (i := 0) rfl dX10_wipe_5 rfl ?_
  refine J_iconst (pc1 := 7) dX10_wipe_6 rfl ?_
  refine J_put (pc1 := 10) (ty := .int) (j := 10) (fs1 := [.ref (B 1), .ref (B 2), .int (iI (n : Int)), .ref (B 3), .ref (B 4), .ref (B 5), .int (iI ik), .int (iI kr), .int (iI ks), .ref (B 6), .int (iI 0), .int (iI sp), .int (iI nu), .ref (B 7), .int (iI rd)]) inUX10 (ci := 10) rfl (by decide) tyX10 tyX10_ok nmX10 rfl (by decide +kernel) lf_X10_132 dX10_wipe_7 rfl W.1 rfl (by rfl) (Nat.le_of_ble_eq_true rfl) rfl ?_
  refine J_iload_n (pc1 := 11) rfl (i := 1) rfl dX10_wipe_10 rfl ?_
  exact J_iret rfl rfl dX10_wipe_11 (Nat.le_refl _) (Nat.le_refl _) (⟨rfl, ⟨hs, sl, sv, ti, to, ik, kr, ks, sp, nu, rd, ⟨(pu_self _ _ _), ((pu_ne _ _ (ne_IO W.2.1 W.1)).trans W.2.1), ((pu_ne _ _ (ne_IO W.2.2.1 W.1)).trans W.2.2.1), ((pu_ne _ _ (ne_IO W.2.2.2.1 W.1)).trans W.2.2.2.1), ((pu_ne _ _ (ne_IO W.2.2.2.2.1 W.1)).trans W.2.2.2.2.1), ((pu_ne _ _ (ne_IO W.2.2.2.2.2.1 W.1)).trans W.2.2.2.2.2.1), ((pu_ne _ _ (ne_IO W.2.2.2.2.2.2.1 W.1)).trans W.2.2.2.2.2.2.1), ((pu_ne _ _ (ne_IO W.2.2.2.2.2.2.2 W.1)).trans W.2.2.2.2.2.2.2)⟩, hH, hm0, hm1, hv0, hv1, hC⟩, fun x h0 h1 h2 h3 h4 h5 h6 h7 => (pu_ne _ _ h0)⟩)
set_option maxHeartbeats 1000000 in
set_option maxRecDepth 20000 in
theorem un_s {S : pS} {B : Nat → Nat} {f hs sl sv ti tx to : Int → Int} {n ik kr ks L sp nu rd : Int} (W : MW S B f hs sl sv ti tx to n ik kr ks L sp nu rd) {K : Option Value → pS → Prop} (hn : 0 ≤ n ∧ n ≤ 5) {j : Int} (h0 : 0 ≤ j) (h1 : j < 19) (k : ∀ T, MW T B (uZ f j (hs ((19 * n) + j))) hs sl sv ti tx to n ik kr ks L sp nu rd → frM S T B → Jd yX10_undo cX10_undo 2 (Option.some FieldType.int) 0 0 0 K 0 0 T 23 [some (.ref (B 0)), some (.int (iI (j + 1)))] []) : Jd yX10_undo cX10_undo 2 (Option.some FieldType.int) 0 0 0 K 0 0 S 23 [some (.ref (B 0)), some (.int (iI j))] [] := by
  show Jd yX10_undo cX10_undo 2 (Option.some FieldType.int) 0 0 0 K 0 0 S 23 [some (.ref (B 0)), some (.int (iI j))] []
  refine J_iload_n (pc1 := 24) rfl (i := 1) rfl dX10_undo_23 rfl ?_
  refine J_bipush (pc1 := 26) (by decide) dX10_undo_24 rfl ?_
  refine J_icmp_ge (pc1 := 29) (tgt := 55) (by omega) (by omega) (by decide) (by decide) dX10_undo_26 rfl rfl (fun hc1 => ?_) (fun hc1 => ?_)
  · exact absurd hc1 (by omega)
  · refine J_aload_n (pc1 := 30) rfl (i := 0) rfl dX10_undo_29 rfl ?_
    refine J_get (pc1 := 33) (j := 0) inUX10 (ci := 10) rfl (by decide) lf_X10_7 dX10_undo_30 rfl W.1 rfl ?_
    refine J_iload_n (pc1 := 34) rfl (i := 1) rfl dX10_undo_33 rfl ?_
    refine J_aload_n (pc1 := 35) rfl (i := 0) rfl dX10_undo_34 rfl ?_
    refine J_get (pc1 := 38) (j := 1) inUX10 (ci := 10) rfl (by decide) lf_X10_13 dX10_undo_35 rfl W.1 rfl ?_
    refine J_bipush (pc1 := 40) (by decide) dX10_undo_38 rfl ?_
    refine J_aload_n (pc1 := 41) rfl (i := 0) rfl dX10_undo_40 rfl ?_
    refine J_get (pc1 := 44) (j := 2) inUX10 (ci := 10) rfl (by decide) lf_X10_34 dX10_undo_41 rfl W.1 rfl ?_
    refine J_imul (pc1 := 45) dX10_undo_44 rfl ?_
    refine J_iload_n (pc1 := 46) rfl (i := 1) rfl dX10_undo_45 rfl ?_
    refine J_iadd (pc1 := 47) dX10_undo_46 rfl ?_
    refine J_iald (pc1 := 48) dX10_undo_47 rfl W.2.2.1 (by omega) (by omega) (by omega) ?_
    refine J_iast (pc1 := 49) dX10_undo_48 rfl W.2.1 (by omega) (by omega) (by omega) ?_
    refine J_iinc (pc1 := 52) (L1 := [some (.ref (B 0)), some (.int (iI (j + 1)))]) dX10_undo_49 rfl rfl (by decide) rfl rfl ?_
    refine J_goto (tgt := 23) dX10_undo_52 rfl ?_
    exact k _ ⟨((pu_ne _ _ (ne_OI W.1 W.2.1)).trans W.1), (pu_self _ _ _), ((pu_ne _ _ (ne_II W.2.2.1 W.2.1 (by decide))).trans W.2.2.1), ((pu_ne _ _ (ne_II W.2.2.2.1 W.2.1 (by decide))).trans W.2.2.2.1), ((pu_ne _ _ (ne_II W.2.2.2.2.1 W.2.1 (by decide))).trans W.2.2.2.2.1), ((pu_ne _ _ (ne_II W.2.2.2.2.2.1 W.2.1 (by decide))).trans W.2.2.2.2.2.1), ((pu_ne _ _ (ne_II W.2.2.2.2.2.2.1 W.2.1 (by decide))).trans W.2.2.2.2.2.2.1), ((pu_ne _ _ (ne_II W.2.2.2.2.2.2.2 W.2.1 (by decide))).trans W.2.2.2.2.2.2.2)⟩ (fun x h0 h1 h2 h3 h4 h5 h6 h7 => (pu_ne _ _ h1))
theorem un_l {B : Nat → Nat} {hs sl sv ti tx to g0 : Int → Int} {n ik kr ks L sp nu rd : Int} {K : Option Value → pS → Prop} (hn : 0 ≤ n ∧ n ≤ 5) : ∀ (r : Nat) {S : pS} {f : Int → Int} (W : MW S B f hs sl sv ti tx to n ik kr ks L sp nu rd) {j : Int}, 0 ≤ j → j + r = 19 → Cpy (0) j (fun k => hs (19 * n + k)) g0 f → (∀ T g, MW T B g hs sl sv ti tx to n ik kr ks L sp nu rd → frM S T B → Cpy (0) 19 (fun k => hs (19 * n + k)) g0 g → Jd yX10_undo cX10_undo 2 (Option.some FieldType.int) 0 0 0 K 0 0 T 23 [some (.ref (B 0)), some (.int (iI 19))] []) → Jd yX10_undo cX10_undo 2 (Option.some FieldType.int) 0 0 0 K 0 0 S 23 [some (.ref (B 0)), some (.int (iI j))] [] := by
  intro r
  induction r with
  | zero =>
    intro S f W j h0 h1 hc k
    have e : j = 19 := by omega
    subst e
    exact k S f W frM.rf hc
  | succ r ih =>
    intro S f W j h0 h1 hc k
    refine un_s W hn h0 (by omega) (fun T1 W1 r1 => ?_)
    exact ih W1 (by omega) (by omega) (Cpy.s (by omega) rfl h0 (by omega) hc) (fun T2 g W2 r2 hc2 => k T2 g W2 (frM.tr r1 r2) hc2)
set_option maxHeartbeats 1000000 in
set_option maxRecDepth 20000 in
theorem un_x {S : pS} {B : Nat → Nat} {f hs sl sv ti tx to : Int → Int} {n ik kr ks L sp nu rd : Int} (W : MW S B f hs sl sv ti tx to n ik kr ks L sp nu rd) {K : Option Value → pS → Prop} (hK : ∀ T, MW T B f hs sl sv ti tx to n ik kr ks L sp nu rd → frM S T B → K (some (.int (iI n))) T)  : Jd yX10_undo cX10_undo 2 (Option.some FieldType.int) 0 0 0 K 0 0 S 23 [some (.ref (B 0)), some (.int (iI 19))] [] := by
  show Jd yX10_undo cX10_undo 2 (Option.some FieldType.int) 0 0 0 K 0 0 S 23 [some (.ref (B 0)), some (.int (iI 19))] []
  refine J_iload_n (pc1 := 24) rfl (i := 1) rfl dX10_undo_23 rfl ?_
  refine J_bipush (pc1 := 26) (by decide) dX10_undo_24 rfl ?_
  refine J_icmp_ge (pc1 := 29) (tgt := 55) (by decide) (by decide) (by decide) (by decide) dX10_undo_26 rfl rfl (fun hc1 => ?_) (fun hc1 => ?_)
  · refine J_aload_n (pc1 := 56) rfl (i := 0) rfl dX10_undo_55 rfl ?_
    refine J_get (pc1 := 59) (j := 2) inUX10 (ci := 10) rfl (by decide) lf_X10_34 dX10_undo_56 rfl W.1 rfl ?_
    exact J_iret rfl rfl dX10_undo_59 (Nat.le_refl _) (Nat.le_refl _) (hK _ ⟨W.1, W.2.1, W.2.2.1, W.2.2.2.1, W.2.2.2.2.1, W.2.2.2.2.2.1, W.2.2.2.2.2.2.1, W.2.2.2.2.2.2.2⟩ (fun x h0 h1 h2 h3 h4 h5 h6 h7 => rfl))
  · exact absurd hc1 (by decide)
set_option maxHeartbeats 1000000 in
set_option maxRecDepth 20000 in
theorem c_X10_undo {S : pS} {B : Nat → Nat} {f f1 f2 : Int → Int} {b0 b1 : Int} {n : Nat} {H : Nat → Int → Int} {tx : Int → Int} {L : Nat} (hM : MS S B f f1 f2 b0 b1 n H tx L) (ok : okX f f1 f2 b0 b1 n H)  : Ct yX10_undo cX10_undo 2 (Option.some FieldType.int) 0 0 0 [.ref (B 0)] S (KOR (0 < n) (-1005) ((n : Int) - 1) S (fun T => MS T B (H (n - 1)) f1 f2 b0 b1 (n - 1) H tx L ∧ frM S T B)) := by
  have hM9 := hM
  obtain ⟨hs, sl, sv, ti, to, ik, kr, ks, sp, nu, rd, W, hH, hm0, hm1, hv0, hv1, hC⟩ := hM
  have okf := ok.1
  have hn6 := ok.2.2.2.2.2.1
  refine Ct.ofJ (by decide +kernel) (Nat.le_of_ble_eq_true rfl) ?_
  refine J_L (L1 := [some (.ref (B 0)), none]) rfl ?_
  refine J_aload_n (pc1 := 1) rfl (i := 0) rfl dX10_undo_0 rfl ?_
  refine J_get (pc1 := 4) (j := 2) inUX10 (ci := 10) rfl (by decide) lf_X10_34 dX10_undo_1 rfl W.1 rfl ?_
  refine J_if_ne (pc1 := 7) (tgt := 11) (by omega) (by omega) dX10_undo_4 rfl rfl (fun hc1 => ?_) (fun hc1 => ?_)
  · refine J_aload_n (pc1 := 12) rfl (i := 0) rfl dX10_undo_11 rfl ?_
    refine J_dup (pc1 := 13) rfl dX10_undo_12 rfl ?_
    refine J_get (pc1 := 16) (j := 2) inUX10 (ci := 10) rfl (by decide) lf_X10_34 dX10_undo_13 rfl W.1 rfl ?_
    refine J_iconst (pc1 := 17) dX10_undo_16 rfl ?_
    refine J_isub (pc1 := 18) dX10_undo_17 rfl ?_
    refine J_put (pc1 := 21) (ty := .int) (j := 2) (fs1 := [.ref (B 1), .ref (B 2), .int (iI ((n : Int) - 1)), .ref (B 3), .ref (B 4), .ref (B 5), .int (iI ik), .int (iI kr), .int (iI ks), .ref (B 6), .int (iI (L : Int)), .int (iI sp), .int (iI nu), .ref (B 7), .int (iI rd)]) inUX10 (ci := 10) rfl (by decide) tyX10 tyX10_ok nmX10 rfl (by decide +kernel) lf_X10_34 dX10_undo_18 rfl W.1 rfl (by rfl) (Nat.le_of_ble_eq_true rfl) rfl ?_
    refine J_iconst (pc1 := 22) dX10_undo_21 rfl ?_
    refine J_istore_n (pc1 := 23) (L1 := [some (.ref (B 0)), some (.int (iI 0))]) rfl (i := 1) dX10_undo_22 rfl (by decide) rfl rfl ?_
    refine un_l (by omega) 19 ⟨(pu_self _ _ _), ((pu_ne _ _ (ne_IO W.2.1 W.1)).trans W.2.1), ((pu_ne _ _ (ne_IO W.2.2.1 W.1)).trans W.2.2.1), ((pu_ne _ _ (ne_IO W.2.2.2.1 W.1)).trans W.2.2.2.1), ((pu_ne _ _ (ne_IO W.2.2.2.2.1 W.1)).trans W.2.2.2.2.1), ((pu_ne _ _ (ne_IO W.2.2.2.2.2.1 W.1)).trans W.2.2.2.2.2.1), ((pu_ne _ _ (ne_IO W.2.2.2.2.2.2.1 W.1)).trans W.2.2.2.2.2.2.1), ((pu_ne _ _ (ne_IO W.2.2.2.2.2.2.2 W.1)).trans W.2.2.2.2.2.2.2)⟩ (j := 0) (by decide) (by decide) Cpy.z (fun T2 g W2 r2 hc => ?_)
    refine J_all W2 (H (n - 1)) (fun k k0 k1 => ?_) (fun T3 W3 r3 => ?_)
    · have h1 := hc.1 k k0 k1
      have h2 := hH (n - 1) (by omega) k k0 k1
      rw [Int.zero_add] at h1
      rw [h1, ← h2]
      show hs (19 * ((n : Int) - 1) + k) = _
      congr 2; omega
    refine un_x W3 (fun T4 W4 r4 => ?_)
    refine KOR_1 (by omega) rfl ⟨⟨hs, sl, sv, ti, to, ik, kr, ks, sp, nu, rd, ?_, fun i hi => hH i (by omega), hm0, hm1, hv0, hv1, hC⟩, frM.tr (fun x h0 h1 h2 h3 h4 h5 h6 h7 => (pu_ne _ _ h0)) (frM.tr r2 (frM.tr r3 r4))⟩
    rw [show ((n - 1 : Nat) : Int) = (n : Int) - 1 by omega]
    exact W4
  · refine J_sipush (pc1 := 10) (by decide) dX10_undo_7 rfl ?_
    exact J_iret rfl rfl dX10_undo_10 (Nat.le_refl _) (Nat.le_refl _) (KOR_0 (by omega) rfl)
set_option maxHeartbeats 1000000 in
set_option maxRecDepth 20000 in
theorem sv_s {S : pS} {B : Nat → Nat} {f hs sl sv ti tx to : Int → Int} {n ik kr ks L sp nu rd : Int} (W : MW S B f hs sl sv ti tx to n ik kr ks L sp nu rd) {K : Option Value → pS → Prop} {s : Int} (hs9 : s = 0 ∨ s = 1) {j : Int} (h0 : 0 ≤ j) (h1 : j < 19) (k : ∀ T, MW T B f hs (uZ sl ((19 * s) + j) (f j)) sv ti tx to n ik kr ks L sp nu rd → frM S T B → Jd yX10_save cX10_save 3 (Option.some FieldType.int) 1 0 0 K 0 0 T 13 [some (.ref (B 0)), some (.int (iI s)), some (.int (iI (j + 1)))] []) : Jd yX10_save cX10_save 3 (Option.some FieldType.int) 1 0 0 K 0 0 S 13 [some (.ref (B 0)), some (.int (iI s)), some (.int (iI j))] [] := by
  show Jd yX10_save cX10_save 3 (Option.some FieldType.int) 1 0 0 K 0 0 S 13 [some (.ref (B 0)), some (.int (iI s)), some (.int (iI j))] []
  refine J_iload_n (pc1 := 14) rfl (i := 2) rfl dX10_save_13 rfl ?_
  refine J_bipush (pc1 := 16) (by decide) dX10_save_14 rfl ?_
  refine J_icmp_ge (pc1 := 19) (tgt := 42) (by omega) (by omega) (by decide) (by decide) dX10_save_16 rfl rfl (fun hc1 => ?_) (fun hc1 => ?_)
  · exact absurd hc1 (by omega)
  · refine J_aload_n (pc1 := 20) rfl (i := 0) rfl dX10_save_19 rfl ?_
    refine J_get (pc1 := 23) (j := 3) inUX10 (ci := 10) rfl (by decide) lf_X10_16 dX10_save_20 rfl W.1 rfl ?_
    refine J_bipush (pc1 := 25) (by decide) dX10_save_23 rfl ?_
    refine J_iload_n (pc1 := 26) rfl (i := 1) rfl dX10_save_25 rfl ?_
    refine J_imul (pc1 := 27) dX10_save_26 rfl ?_
    refine J_iload_n (pc1 := 28) rfl (i := 2) rfl dX10_save_27 rfl ?_
    refine J_iadd (pc1 := 29) dX10_save_28 rfl ?_
    refine J_aload_n (pc1 := 30) rfl (i := 0) rfl dX10_save_29 rfl ?_
    refine J_get (pc1 := 33) (j := 0) inUX10 (ci := 10) rfl (by decide) lf_X10_7 dX10_save_30 rfl W.1 rfl ?_
    refine J_iload_n (pc1 := 34) rfl (i := 2) rfl dX10_save_33 rfl ?_
    refine J_iald (pc1 := 35) dX10_save_34 rfl W.2.1 (by omega) (by omega) (by omega) ?_
    refine J_iast (pc1 := 36) dX10_save_35 rfl W.2.2.2.1 (by omega) (by omega) (by omega) ?_
    refine J_iinc (pc1 := 39) (L1 := [some (.ref (B 0)), some (.int (iI s)), some (.int (iI (j + 1)))]) dX10_save_36 rfl rfl (by decide) rfl rfl ?_
    refine J_goto (tgt := 13) dX10_save_39 rfl ?_
    exact k _ ⟨((pu_ne _ _ (ne_OI W.1 W.2.2.2.1)).trans W.1), ((pu_ne _ _ (ne_II W.2.1 W.2.2.2.1 (by decide))).trans W.2.1), ((pu_ne _ _ (ne_II W.2.2.1 W.2.2.2.1 (by decide))).trans W.2.2.1), (pu_self _ _ _), ((pu_ne _ _ (ne_II W.2.2.2.2.1 W.2.2.2.1 (by decide))).trans W.2.2.2.2.1), ((pu_ne _ _ (ne_II W.2.2.2.2.2.1 W.2.2.2.1 (by decide))).trans W.2.2.2.2.2.1), ((pu_ne _ _ (ne_II W.2.2.2.2.2.2.1 W.2.2.2.1 (by decide))).trans W.2.2.2.2.2.2.1), ((pu_ne _ _ (ne_II W.2.2.2.2.2.2.2 W.2.2.2.1 (by decide))).trans W.2.2.2.2.2.2.2)⟩ (fun x h0 h1 h2 h3 h4 h5 h6 h7 => (pu_ne _ _ h3))
theorem sv_l {B : Nat → Nat} {f hs sv ti tx to g0 : Int → Int} {n ik kr ks L sp nu rd : Int} {K : Option Value → pS → Prop} {s : Int} (hs9 : s = 0 ∨ s = 1) : ∀ (r : Nat) {S : pS} {sl : Int → Int} (W : MW S B f hs sl sv ti tx to n ik kr ks L sp nu rd) {j : Int}, 0 ≤ j → j + r = 19 → Cpy (19 * s) j f g0 sl → (∀ T g, MW T B f hs g sv ti tx to n ik kr ks L sp nu rd → frM S T B → Cpy (19 * s) 19 f g0 g → Jd yX10_save cX10_save 3 (Option.some FieldType.int) 1 0 0 K 0 0 T 13 [some (.ref (B 0)), some (.int (iI s)), some (.int (iI 19))] []) → Jd yX10_save cX10_save 3 (Option.some FieldType.int) 1 0 0 K 0 0 S 13 [some (.ref (B 0)), some (.int (iI s)), some (.int (iI j))] [] := by
  intro r
  induction r with
  | zero =>
    intro S sl W j h0 h1 hc k
    have e : j = 19 := by omega
    subst e
    exact k S sl W frM.rf hc
  | succ r ih =>
    intro S sl W j h0 h1 hc k
    refine sv_s W hs9 h0 (by omega) (fun T1 W1 r1 => ?_)
    exact ih W1 (by omega) (by omega) (Cpy.s (by omega) rfl h0 (by omega) hc) (fun T2 g W2 r2 hc2 => k T2 g W2 (frM.tr r1 r2) hc2)
set_option maxHeartbeats 1000000 in
set_option maxRecDepth 20000 in
theorem sv_x {S : pS} {B : Nat → Nat} {f hs sl sv ti tx to : Int → Int} {n ik kr ks L sp nu rd : Int} (W : MW S B f hs sl sv ti tx to n ik kr ks L sp nu rd) {K : Option Value → pS → Prop} {s : Int} (hs9 : s = 0 ∨ s = 1) (hK : ∀ T, MW T B f hs sl (uZ sv s 1) ti tx to n ik kr ks L sp nu rd → frM S T B → K (some (.int (iI (f 6)))) T)  : Jd yX10_save cX10_save 3 (Option.some FieldType.int) 1 0 0 K 0 0 S 13 [some (.ref (B 0)), some (.int (iI s)), some (.int (iI 19))] [] := by
  show Jd yX10_save cX10_save 3 (Option.some FieldType.int) 1 0 0 K 0 0 S 13 [some (.ref (B 0)), some (.int (iI s)), some (.int (iI 19))] []
  refine J_iload_n (pc1 := 14) rfl (i := 2) rfl dX10_save_13 rfl ?_
  refine J_bipush (pc1 := 16) (by decide) dX10_save_14 rfl ?_
  refine J_icmp_ge (pc1 := 19) (tgt := 42) (by decide) (by decide) (by decide) (by decide) dX10_save_16 rfl rfl (fun hc1 => ?_) (fun hc1 => ?_)
  · refine J_aload_n (pc1 := 43) rfl (i := 0) rfl dX10_save_42 rfl ?_
    refine J_get (pc1 := 46) (j := 4) inUX10 (ci := 10) rfl (by decide) lf_X10_19 dX10_save_43 rfl W.1 rfl ?_
    refine J_iload_n (pc1 := 47) rfl (i := 1) rfl dX10_save_46 rfl ?_
    refine J_iconst (pc1 := 48) dX10_save_47 rfl ?_
    refine J_iast (pc1 := 49) dX10_save_48 rfl W.2.2.2.2.1 (by omega) (by omega) (by omega) ?_
    refine J_aload_n (pc1 := 50) rfl (i := 0) rfl dX10_save_49 rfl ?_
    refine J_get (pc1 := 53) (j := 0) inUX10 (ci := 10) rfl (by decide) lf_X10_7 dX10_save_50 rfl ((pu_ne _ _ (ne_OI W.1 W.2.2.2.2.1)).trans W.1) rfl ?_
    refine J_bipush (pc1 := 55) (by decide) dX10_save_53 rfl ?_
    refine J_iald (pc1 := 56) dX10_save_55 rfl ((pu_ne _ _ (ne_II W.2.1 W.2.2.2.2.1 (by decide))).trans W.2.1) (by omega) (by omega) (by omega) ?_
    exact J_iret rfl rfl dX10_save_56 (Nat.le_refl _) (Nat.le_refl _) (hK _ ⟨((pu_ne _ _ (ne_OI W.1 W.2.2.2.2.1)).trans W.1), ((pu_ne _ _ (ne_II W.2.1 W.2.2.2.2.1 (by decide))).trans W.2.1), ((pu_ne _ _ (ne_II W.2.2.1 W.2.2.2.2.1 (by decide))).trans W.2.2.1), ((pu_ne _ _ (ne_II W.2.2.2.1 W.2.2.2.2.1 (by decide))).trans W.2.2.2.1), (pu_self _ _ _), ((pu_ne _ _ (ne_II W.2.2.2.2.2.1 W.2.2.2.2.1 (by decide))).trans W.2.2.2.2.2.1), ((pu_ne _ _ (ne_II W.2.2.2.2.2.2.1 W.2.2.2.2.1 (by decide))).trans W.2.2.2.2.2.2.1), ((pu_ne _ _ (ne_II W.2.2.2.2.2.2.2 W.2.2.2.2.1 (by decide))).trans W.2.2.2.2.2.2.2)⟩ (fun x h0 h1 h2 h3 h4 h5 h6 h7 => (pu_ne _ _ h4)))
  · exact absurd hc1 (by decide)
set_option maxHeartbeats 1000000 in
set_option maxRecDepth 20000 in
theorem c_X10_save0 {S : pS} {B : Nat → Nat} {f f1 f2 : Int → Int} {b0 b1 : Int} {n : Nat} {H : Nat → Int → Int} {tx : Int → Int} {L : Nat} (hM : MS S B f f1 f2 b0 b1 n H tx L) (ok : okX f f1 f2 b0 b1 n H)  : Ct yX10_save cX10_save 3 (Option.some FieldType.int) 1 0 0 [.ref (B 0), .int (iI 0)] S (kIS (f 6) (fun T => MS T B f (if 1 = 1 then f else f1) (if 1 = 2 then f else f2) (if 1 = 1 then 1 else b0) (if 1 = 2 then 1 else b1) n H tx L ∧ frM S T B)) := by
  have hM9 := hM
  obtain ⟨hs, sl, sv, ti, to, ik, kr, ks, sp, nu, rd, W, hH, hm0, hm1, hv0, hv1, hC⟩ := hM
  have okf := ok.1
  have hn6 := ok.2.2.2.2.2.1
  refine Ct.ofJ (by decide +kernel) (Nat.le_of_ble_eq_true rfl) ?_
  refine J_L (L1 := [some (.ref (B 0)), some (.int (iI 0)), none]) rfl ?_
  refine J_iload_n (pc1 := 1) rfl (i := 1) rfl dX10_save_0 rfl ?_
  refine J_callSI (pc1 := 4) (As := [.int (iI 0)]) gs_X10_125 yv_X10_isPlayer (c_X10_isPlayer (p := 0) (by omega)) dX10_save_1 rfl rfl rfl (by omega) (by decide) (by omega) (by omega) (Nat.le_of_ble_eq_true rfl) ?_
  refine J_if_ne (pc1 := 7) (tgt := 11) (bC_lo _) (bC_hi _) dX10_save_4 rfl rfl (fun hc1 => ?_) (fun hc1 => ?_)
  · refine J_iconst (pc1 := 12) dX10_save_11 rfl ?_
    refine J_istore_n (pc1 := 13) (L1 := [some (.ref (B 0)), some (.int (iI 0)), some (.int (iI 0))]) rfl (i := 2) dX10_save_12 rfl (by decide) rfl rfl ?_
    refine sv_l (s := 0) (by decide) 19 ⟨W.1, W.2.1, W.2.2.1, W.2.2.2.1, W.2.2.2.2.1, W.2.2.2.2.2.1, W.2.2.2.2.2.2.1, W.2.2.2.2.2.2.2⟩ (j := 0) (by decide) (by decide) Cpy.z (fun T2 g W2 r2 hc => ?_)
    refine sv_x W2 (by decide) (fun T3 W3 r3 => ?_)
    exact ⟨rfl, ⟨hs, g, uZ sv 0 1, ti, to, ik, kr, ks, sp, nu, rd, W3, hH, fun _ k k0 k1 => by rw [show (0 + k : Int) = 19 * 0 + k by omega]; exact hc.1 k k0 k1, fun e k k0 k1 => (hc.2 _ (by omega)).trans (hm1 e k k0 k1), rfl, (uZ_n (by decide)).trans hv1, hC⟩, frM.tr r2 r3⟩
  · exact absurd (by decide) (bC_0 hc1)
set_option maxHeartbeats 1000000 in
set_option maxRecDepth 20000 in
theorem c_X10_save1 {S : pS} {B : Nat → Nat} {f f1 f2 : Int → Int} {b0 b1 : Int} {n : Nat} {H : Nat → Int → Int} {tx : Int → Int} {L : Nat} (hM : MS S B f f1 f2 b0 b1 n H tx L) (ok : okX f f1 f2 b0 b1 n H)  : Ct yX10_save cX10_save 3 (Option.some FieldType.int) 1 0 0 [.ref (B 0), .int (iI 1)] S (kIS (f 6) (fun T => MS T B f (if 2 = 1 then f else f1) (if 2 = 2 then f else f2) (if 2 = 1 then 1 else b0) (if 2 = 2 then 1 else b1) n H tx L ∧ frM S T B)) := by
  have hM9 := hM
  obtain ⟨hs, sl, sv, ti, to, ik, kr, ks, sp, nu, rd, W, hH, hm0, hm1, hv0, hv1, hC⟩ := hM
  have okf := ok.1
  have hn6 := ok.2.2.2.2.2.1
  refine Ct.ofJ (by decide +kernel) (Nat.le_of_ble_eq_true rfl) ?_
  refine J_L (L1 := [some (.ref (B 0)), some (.int (iI 1)), none]) rfl ?_
  refine J_iload_n (pc1 := 1) rfl (i := 1) rfl dX10_save_0 rfl ?_
  refine J_callSI (pc1 := 4) (As := [.int (iI 1)]) gs_X10_125 yv_X10_isPlayer (c_X10_isPlayer (p := 1) (by omega)) dX10_save_1 rfl rfl rfl (by omega) (by decide) (by omega) (by omega) (Nat.le_of_ble_eq_true rfl) ?_
  refine J_if_ne (pc1 := 7) (tgt := 11) (bC_lo _) (bC_hi _) dX10_save_4 rfl rfl (fun hc1 => ?_) (fun hc1 => ?_)
  · refine J_iconst (pc1 := 12) dX10_save_11 rfl ?_
    refine J_istore_n (pc1 := 13) (L1 := [some (.ref (B 0)), some (.int (iI 1)), some (.int (iI 0))]) rfl (i := 2) dX10_save_12 rfl (by decide) rfl rfl ?_
    refine sv_l (s := 1) (by decide) 19 ⟨W.1, W.2.1, W.2.2.1, W.2.2.2.1, W.2.2.2.2.1, W.2.2.2.2.2.1, W.2.2.2.2.2.2.1, W.2.2.2.2.2.2.2⟩ (j := 0) (by decide) (by decide) Cpy.z (fun T2 g W2 r2 hc => ?_)
    refine sv_x W2 (by decide) (fun T3 W3 r3 => ?_)
    exact ⟨rfl, ⟨hs, g, uZ sv 1 1, ti, to, ik, kr, ks, sp, nu, rd, W3, hH, fun e k k0 k1 => (hc.2 _ (by omega)).trans (hm0 e k k0 k1), fun _ k k0 k1 => by rw [show (19 + k : Int) = 19 * 1 + k by omega]; exact hc.1 k k0 k1, (uZ_n (by decide)).trans hv0, rfl, hC⟩, frM.tr r2 r3⟩
  · exact absurd (by decide) (bC_0 hc1)
set_option maxHeartbeats 400000 in
set_option maxRecDepth 20000 in
theorem c_X10_saveN {S : pS} {B : Nat → Nat} {s : Int} (hs : -2147483648 ≤ s ∧ s < 2147483648) (hs9 : ¬ (s = 0 ∨ s = 1)) : Ct yX10_save cX10_save 3 (Option.some FieldType.int) 1 0 0 [.ref (B 0), .int (iI s)] S (kI (-1002) S) := by
  refine Ct.ofJ (by decide +kernel) (Nat.le_of_ble_eq_true rfl) ?_
  refine J_L (L1 := [some (.ref (B 0)), some (.int (iI s)), none]) rfl ?_
  refine J_iload_n (pc1 := 1) rfl (i := 1) rfl dX10_save_0 rfl ?_
  refine J_callSI (pc1 := 4) (As := [.int (iI s)]) gs_X10_125 yv_X10_isPlayer (c_X10_isPlayer (p := s) (by omega)) dX10_save_1 rfl rfl rfl (by omega) (by decide) (by omega) (by omega) (Nat.le_of_ble_eq_true rfl) ?_
  refine J_if_ne (pc1 := 7) (tgt := 11) (bC_lo _) (bC_hi _) dX10_save_4 rfl rfl (fun hc1 => ?_) (fun hc1 => ?_)
  · exact absurd (bC_1 hc1) hs9
  · refine J_sipush (pc1 := 10) (by decide) dX10_save_7 rfl ?_
    exact J_iret rfl rfl dX10_save_10 (Nat.le_refl _) (Nat.le_refl _) (kI_mk rfl)
set_option maxHeartbeats 1000000 in
set_option maxRecDepth 20000 in
theorem rs_s {S : pS} {B : Nat → Nat} {f hs sl sv ti tx to : Int → Int} {n ik kr ks L sp nu rd : Int} (W : MW S B f hs sl sv ti tx to n ik kr ks L sp nu rd) {K : Option Value → pS → Prop} {s : Int} (hs9 : s = 0 ∨ s = 1) {j : Int} (h0 : 0 ≤ j) (h1 : j < 19) (k : ∀ T, MW T B (uZ f j (sl ((19 * s) + j))) hs sl sv ti tx to n ik kr ks L sp nu rd → frM S T B → Jd yX10_restore cX10_restore 3 (Option.some FieldType.int) 1 0 0 K 0 0 T 30 [some (.ref (B 0)), some (.int (iI s)), some (.int (iI (j + 1)))] []) : Jd yX10_restore cX10_restore 3 (Option.some FieldType.int) 1 0 0 K 0 0 S 30 [some (.ref (B 0)), some (.int (iI s)), some (.int (iI j))] [] := by
  show Jd yX10_restore cX10_restore 3 (Option.some FieldType.int) 1 0 0 K 0 0 S 30 [some (.ref (B 0)), some (.int (iI s)), some (.int (iI j))] []
  refine J_iload_n (pc1 := 31) rfl (i := 2) rfl dX10_restore_30 rfl ?_
  refine J_bipush (pc1 := 33) (by decide) dX10_restore_31 rfl ?_
  refine J_icmp_ge (pc1 := 36) (tgt := 59) (by omega) (by omega) (by decide) (by decide) dX10_restore_33 rfl rfl (fun hc1 => ?_) (fun hc1 => ?_)
  · exact absurd hc1 (by omega)
  · refine J_aload_n (pc1 := 37) rfl (i := 0) rfl dX10_restore_36 rfl ?_
    refine J_get (pc1 := 40) (j := 0) inUX10 (ci := 10) rfl (by decide) lf_X10_7 dX10_restore_37 rfl W.1 rfl ?_
    refine J_iload_n (pc1 := 41) rfl (i := 2) rfl dX10_restore_40 rfl ?_
    refine J_aload_n (pc1 := 42) rfl (i := 0) rfl dX10_restore_41 rfl ?_
    refine J_get (pc1 := 45) (j := 3) inUX10 (ci := 10) rfl (by decide) lf_X10_16 dX10_restore_42 rfl W.1 rfl ?_
    refine J_bipush (pc1 := 47) (by decide) dX10_restore_45 rfl ?_
    refine J_iload_n (pc1 := 48) rfl (i := 1) rfl dX10_restore_47 rfl ?_
    refine J_imul (pc1 := 49) dX10_restore_48 rfl ?_
    refine J_iload_n (pc1 := 50) rfl (i := 2) rfl dX10_restore_49 rfl ?_
    refine J_iadd (pc1 := 51) dX10_restore_50 rfl ?_
    refine J_iald (pc1 := 52) dX10_restore_51 rfl W.2.2.2.1 (by omega) (by omega) (by omega) ?_
    refine J_iast (pc1 := 53) dX10_restore_52 rfl W.2.1 (by omega) (by omega) (by omega) ?_
    refine J_iinc (pc1 := 56) (L1 := [some (.ref (B 0)), some (.int (iI s)), some (.int (iI (j + 1)))]) dX10_restore_53 rfl rfl (by decide) rfl rfl ?_
    refine J_goto (tgt := 30) dX10_restore_56 rfl ?_
    exact k _ ⟨((pu_ne _ _ (ne_OI W.1 W.2.1)).trans W.1), (pu_self _ _ _), ((pu_ne _ _ (ne_II W.2.2.1 W.2.1 (by decide))).trans W.2.2.1), ((pu_ne _ _ (ne_II W.2.2.2.1 W.2.1 (by decide))).trans W.2.2.2.1), ((pu_ne _ _ (ne_II W.2.2.2.2.1 W.2.1 (by decide))).trans W.2.2.2.2.1), ((pu_ne _ _ (ne_II W.2.2.2.2.2.1 W.2.1 (by decide))).trans W.2.2.2.2.2.1), ((pu_ne _ _ (ne_II W.2.2.2.2.2.2.1 W.2.1 (by decide))).trans W.2.2.2.2.2.2.1), ((pu_ne _ _ (ne_II W.2.2.2.2.2.2.2 W.2.1 (by decide))).trans W.2.2.2.2.2.2.2)⟩ (fun x h0 h1 h2 h3 h4 h5 h6 h7 => (pu_ne _ _ h1))
theorem rs_l {B : Nat → Nat} {hs sl sv ti tx to g0 : Int → Int} {n ik kr ks L sp nu rd : Int} {K : Option Value → pS → Prop} {s : Int} (hs9 : s = 0 ∨ s = 1) : ∀ (r : Nat) {S : pS} {f : Int → Int} (W : MW S B f hs sl sv ti tx to n ik kr ks L sp nu rd) {j : Int}, 0 ≤ j → j + r = 19 → Cpy (0) j (fun k => sl (19 * s + k)) g0 f → (∀ T g, MW T B g hs sl sv ti tx to n ik kr ks L sp nu rd → frM S T B → Cpy (0) 19 (fun k => sl (19 * s + k)) g0 g → Jd yX10_restore cX10_restore 3 (Option.some FieldType.int) 1 0 0 K 0 0 T 30 [some (.ref (B 0)), some (.int (iI s)), some (.int (iI 19))] []) → Jd yX10_restore cX10_restore 3 (Option.some FieldType.int) 1 0 0 K 0 0 S 30 [some (.ref (B 0)), some (.int (iI s)), some (.int (iI j))] [] := by
  intro r
  induction r with
  | zero =>
    intro S f W j h0 h1 hc k
    have e : j = 19 := by omega
    subst e
    exact k S f W frM.rf hc
  | succ r ih =>
    intro S f W j h0 h1 hc k
    refine rs_s W hs9 h0 (by omega) (fun T1 W1 r1 => ?_)
    exact ih W1 (by omega) (by omega) (Cpy.s (by omega) rfl h0 (by omega) hc) (fun T2 g W2 r2 hc2 => k T2 g W2 (frM.tr r1 r2) hc2)
set_option maxHeartbeats 1000000 in
set_option maxRecDepth 20000 in
theorem rs_x {S : pS} {B : Nat → Nat} {f hs sl sv ti tx to : Int → Int} {n ik kr ks L sp nu rd : Int} (W : MW S B f hs sl sv ti tx to n ik kr ks L sp nu rd) {K : Option Value → pS → Prop} {s : Int} (hs9 : s = 0 ∨ s = 1) (hK : ∀ T, MW T B f hs sl sv ti tx to n ik kr ks L sp nu rd → frM S T B → K (some (.int (iI (f 6)))) T)  : Jd yX10_restore cX10_restore 3 (Option.some FieldType.int) 1 0 0 K 0 0 S 30 [some (.ref (B 0)), some (.int (iI s)), some (.int (iI 19))] [] := by
  show Jd yX10_restore cX10_restore 3 (Option.some FieldType.int) 1 0 0 K 0 0 S 30 [some (.ref (B 0)), some (.int (iI s)), some (.int (iI 19))] []
  refine J_iload_n (pc1 := 31) rfl (i := 2) rfl dX10_restore_30 rfl ?_
  refine J_bipush (pc1 := 33) (by decide) dX10_restore_31 rfl ?_
  refine J_icmp_ge (pc1 := 36) (tgt := 59) (by decide) (by decide) (by decide) (by decide) dX10_restore_33 rfl rfl (fun hc1 => ?_) (fun hc1 => ?_)
  · refine J_aload_n (pc1 := 60) rfl (i := 0) rfl dX10_restore_59 rfl ?_
    refine J_get (pc1 := 63) (j := 0) inUX10 (ci := 10) rfl (by decide) lf_X10_7 dX10_restore_60 rfl W.1 rfl ?_
    refine J_bipush (pc1 := 65) (by decide) dX10_restore_63 rfl ?_
    refine J_iald (pc1 := 66) dX10_restore_65 rfl W.2.1 (by omega) (by omega) (by omega) ?_
    exact J_iret rfl rfl dX10_restore_66 (Nat.le_refl _) (Nat.le_refl _) (hK _ ⟨W.1, W.2.1, W.2.2.1, W.2.2.2.1, W.2.2.2.2.1, W.2.2.2.2.2.1, W.2.2.2.2.2.2.1, W.2.2.2.2.2.2.2⟩ (fun x h0 h1 h2 h3 h4 h5 h6 h7 => rfl))
  · exact absurd hc1 (by decide)
set_option maxHeartbeats 1000000 in
set_option maxRecDepth 20000 in
theorem c_X10_restore0 {S : pS} {B : Nat → Nat} {f f1 f2 : Int → Int} {b0 b1 : Int} {n : Nat} {H : Nat → Int → Int} {tx : Int → Int} {L : Nat} (hM : MS S B f f1 f2 b0 b1 n H tx L) (ok : okX f f1 f2 b0 b1 n H)  : Ct yX10_restore cX10_restore 3 (Option.some FieldType.int) 1 0 0 [.ref (B 0), .int (iI 0)] S (KOR (b0 = 1) (-1005) (f1 6) S (fun T => MS T B f1 f1 f2 b0 b1 (kpN n) (kpH n f H) tx L ∧ frM S T B)) := by
  have hM9 := hM
  obtain ⟨hs, sl, sv, ti, to, ik, kr, ks, sp, nu, rd, W, hH, hm0, hm1, hv0, hv1, hC⟩ := hM
  have okf := ok.1
  have hn6 := ok.2.2.2.2.2.1
  have hb01 := ok.2.1
  refine Ct.ofJ (by decide +kernel) (Nat.le_of_ble_eq_true rfl) ?_
  refine J_L (L1 := [some (.ref (B 0)), some (.int (iI 0)), none]) rfl ?_
  refine J_iload_n (pc1 := 1) rfl (i := 1) rfl dX10_restore_0 rfl ?_
  refine J_callSI (pc1 := 4) (As := [.int (iI 0)]) gs_X10_125 yv_X10_isPlayer (c_X10_isPlayer (p := 0) (by omega)) dX10_restore_1 rfl rfl rfl (by omega) (by decide) (by omega) (by omega) (Nat.le_of_ble_eq_true rfl) ?_
  refine J_if_ne (pc1 := 7) (tgt := 11) (bC_lo _) (bC_hi _) dX10_restore_4 rfl rfl (fun hc1 => ?_) (fun hc1 => ?_)
  · refine J_aload_n (pc1 := 12) rfl (i := 0) rfl dX10_restore_11 rfl ?_
    refine J_get (pc1 := 15) (j := 4) inUX10 (ci := 10) rfl (by decide) lf_X10_19 dX10_restore_12 rfl W.1 rfl ?_
    refine J_iload_n (pc1 := 16) rfl (i := 1) rfl dX10_restore_15 rfl ?_
    refine J_iald (pc1 := 17) dX10_restore_16 rfl W.2.2.2.2.1 (by omega) (by omega) (by omega) ?_
    refine J_if_ne (pc1 := 20) (tgt := 24) (by omega) (by omega) dX10_restore_17 rfl rfl (fun hc2 => ?_) (fun hc2 => ?_)
    · have hb : b0 = 1 := by omega
      refine J_aload_n (pc1 := 25) rfl (i := 0) rfl dX10_restore_24 rfl ?_
      refine J_callVNs (pc1 := 28) (As := []) gv_X10_105 yv_X10_changes rfl (c_X10_changes ⟨W.1, W.2.1, W.2.2.1, W.2.2.2.1, W.2.2.2.2.1, W.2.2.2.2.2.1, W.2.2.2.2.2.2.1, W.2.2.2.2.2.2.2⟩ hn6 hH) dX10_restore_25 rfl W.1 rfl rfl (by omega) (by decide) (by omega) (by omega) (Nat.le_of_ble_eq_true rfl) (fun T1 hT1 => ?_)
      obtain ⟨hs1, W1, hH1, r1⟩ := hT1
      refine J_iconst (pc1 := 29) dX10_restore_28 rfl ?_
      refine J_istore_n (pc1 := 30) (L1 := [some (.ref (B 0)), some (.int (iI 0)), some (.int (iI 0))]) rfl (i := 2) dX10_restore_29 rfl (by decide) rfl rfl ?_
      refine rs_l (s := 0) (by decide) 19 ⟨W1.1, W1.2.1, W1.2.2.1, W1.2.2.2.1, W1.2.2.2.2.1, W1.2.2.2.2.2.1, W1.2.2.2.2.2.2.1, W1.2.2.2.2.2.2.2⟩ (j := 0) (by decide) (by decide) Cpy.z (fun T2 g W2 r2 hc => ?_)
      refine J_all W2 f1 (fun k k0 k1 => ?_) (fun T3 W3 r3 => ?_)
      · have h1 := hc.1 k k0 k1
        rw [Int.zero_add] at h1
        rw [h1, ← hm0 hb k k0 k1]
        show sl (19 * 0 + k) = sl (0 + k)
        rw [show (19 * 0 + k : Int) = 0 + k by omega]
      refine rs_x W3 (by decide) (fun T4 W4 r4 => ?_)
      exact KOR_1 hb rfl ⟨⟨hs1, sl, sv, ti, to, ik, kr, ks, sp, nu, rd, W4, hH1, hm0, hm1, hv0, hv1, hC⟩, frM.tr r1 (frM.tr r2 (frM.tr r3 r4))⟩
    · refine J_sipush (pc1 := 23) (by decide) dX10_restore_20 rfl ?_
      exact J_iret rfl rfl dX10_restore_23 (Nat.le_refl _) (Nat.le_refl _) (KOR_0 (by omega) rfl)
  · exact absurd (by decide) (bC_0 hc1)
set_option maxHeartbeats 1000000 in
set_option maxRecDepth 20000 in
theorem c_X10_restore1 {S : pS} {B : Nat → Nat} {f f1 f2 : Int → Int} {b0 b1 : Int} {n : Nat} {H : Nat → Int → Int} {tx : Int → Int} {L : Nat} (hM : MS S B f f1 f2 b0 b1 n H tx L) (ok : okX f f1 f2 b0 b1 n H)  : Ct yX10_restore cX10_restore 3 (Option.some FieldType.int) 1 0 0 [.ref (B 0), .int (iI 1)] S (KOR (b1 = 1) (-1005) (f2 6) S (fun T => MS T B f2 f1 f2 b0 b1 (kpN n) (kpH n f H) tx L ∧ frM S T B)) := by
  have hM9 := hM
  obtain ⟨hs, sl, sv, ti, to, ik, kr, ks, sp, nu, rd, W, hH, hm0, hm1, hv0, hv1, hC⟩ := hM
  have okf := ok.1
  have hn6 := ok.2.2.2.2.2.1
  have hb01 := ok.2.2.1
  refine Ct.ofJ (by decide +kernel) (Nat.le_of_ble_eq_true rfl) ?_
  refine J_L (L1 := [some (.ref (B 0)), some (.int (iI 1)), none]) rfl ?_
  refine J_iload_n (pc1 := 1) rfl (i := 1) rfl dX10_restore_0 rfl ?_
  refine J_callSI (pc1 := 4) (As := [.int (iI 1)]) gs_X10_125 yv_X10_isPlayer (c_X10_isPlayer (p := 1) (by omega)) dX10_restore_1 rfl rfl rfl (by omega) (by decide) (by omega) (by omega) (Nat.le_of_ble_eq_true rfl) ?_
  refine J_if_ne (pc1 := 7) (tgt := 11) (bC_lo _) (bC_hi _) dX10_restore_4 rfl rfl (fun hc1 => ?_) (fun hc1 => ?_)
  · refine J_aload_n (pc1 := 12) rfl (i := 0) rfl dX10_restore_11 rfl ?_
    refine J_get (pc1 := 15) (j := 4) inUX10 (ci := 10) rfl (by decide) lf_X10_19 dX10_restore_12 rfl W.1 rfl ?_
    refine J_iload_n (pc1 := 16) rfl (i := 1) rfl dX10_restore_15 rfl ?_
    refine J_iald (pc1 := 17) dX10_restore_16 rfl W.2.2.2.2.1 (by omega) (by omega) (by omega) ?_
    refine J_if_ne (pc1 := 20) (tgt := 24) (by omega) (by omega) dX10_restore_17 rfl rfl (fun hc2 => ?_) (fun hc2 => ?_)
    · have hb : b1 = 1 := by omega
      refine J_aload_n (pc1 := 25) rfl (i := 0) rfl dX10_restore_24 rfl ?_
      refine J_callVNs (pc1 := 28) (As := []) gv_X10_105 yv_X10_changes rfl (c_X10_changes ⟨W.1, W.2.1, W.2.2.1, W.2.2.2.1, W.2.2.2.2.1, W.2.2.2.2.2.1, W.2.2.2.2.2.2.1, W.2.2.2.2.2.2.2⟩ hn6 hH) dX10_restore_25 rfl W.1 rfl rfl (by omega) (by decide) (by omega) (by omega) (Nat.le_of_ble_eq_true rfl) (fun T1 hT1 => ?_)
      obtain ⟨hs1, W1, hH1, r1⟩ := hT1
      refine J_iconst (pc1 := 29) dX10_restore_28 rfl ?_
      refine J_istore_n (pc1 := 30) (L1 := [some (.ref (B 0)), some (.int (iI 1)), some (.int (iI 0))]) rfl (i := 2) dX10_restore_29 rfl (by decide) rfl rfl ?_
      refine rs_l (s := 1) (by decide) 19 ⟨W1.1, W1.2.1, W1.2.2.1, W1.2.2.2.1, W1.2.2.2.2.1, W1.2.2.2.2.2.1, W1.2.2.2.2.2.2.1, W1.2.2.2.2.2.2.2⟩ (j := 0) (by decide) (by decide) Cpy.z (fun T2 g W2 r2 hc => ?_)
      refine J_all W2 f2 (fun k k0 k1 => ?_) (fun T3 W3 r3 => ?_)
      · have h1 := hc.1 k k0 k1
        rw [Int.zero_add] at h1
        rw [h1, ← hm1 hb k k0 k1]
        show sl (19 * 1 + k) = sl (19 + k)
        rw [show (19 * 1 + k : Int) = 19 + k by omega]
      refine rs_x W3 (by decide) (fun T4 W4 r4 => ?_)
      exact KOR_1 hb rfl ⟨⟨hs1, sl, sv, ti, to, ik, kr, ks, sp, nu, rd, W4, hH1, hm0, hm1, hv0, hv1, hC⟩, frM.tr r1 (frM.tr r2 (frM.tr r3 r4))⟩
    · refine J_sipush (pc1 := 23) (by decide) dX10_restore_20 rfl ?_
      exact J_iret rfl rfl dX10_restore_23 (Nat.le_refl _) (Nat.le_refl _) (KOR_0 (by omega) rfl)
  · exact absurd (by decide) (bC_0 hc1)
set_option maxHeartbeats 400000 in
set_option maxRecDepth 20000 in
theorem c_X10_restoreN {S : pS} {B : Nat → Nat} {s : Int} (hs : -2147483648 ≤ s ∧ s < 2147483648) (hs9 : ¬ (s = 0 ∨ s = 1)) : Ct yX10_restore cX10_restore 3 (Option.some FieldType.int) 1 0 0 [.ref (B 0), .int (iI s)] S (kI (-1002) S) := by
  refine Ct.ofJ (by decide +kernel) (Nat.le_of_ble_eq_true rfl) ?_
  refine J_L (L1 := [some (.ref (B 0)), some (.int (iI s)), none]) rfl ?_
  refine J_iload_n (pc1 := 1) rfl (i := 1) rfl dX10_restore_0 rfl ?_
  refine J_callSI (pc1 := 4) (As := [.int (iI s)]) gs_X10_125 yv_X10_isPlayer (c_X10_isPlayer (p := s) (by omega)) dX10_restore_1 rfl rfl rfl (by omega) (by decide) (by omega) (by omega) (Nat.le_of_ble_eq_true rfl) ?_
  refine J_if_ne (pc1 := 7) (tgt := 11) (bC_lo _) (bC_hi _) dX10_restore_4 rfl rfl (fun hc1 => ?_) (fun hc1 => ?_)
  · exact absurd (bC_1 hc1) hs9
  · refine J_sipush (pc1 := 10) (by decide) dX10_restore_7 rfl ?_
    exact J_iret rfl rfl dX10_restore_10 (Nat.le_refl _) (Nat.le_refl _) (kI_mk rfl)
