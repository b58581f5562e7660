/-! 33.mread: the reference's calls that read -/
theorem foF_2 {f : Int → Int} {p r m : Int} (hp : p = 0 ∨ p = 1) (hr : 0 ≤ r ∧ r ≤ m) : foF f p r m = bC (twT f p (moF f p) ≤ r) := (if_neg (fun z => z hp)).trans (if_neg (fun z => z hr))
theorem rvT_le {t r : Int} (h : 0 ≤ t ∧ t ≤ 9) (hr : 0 ≤ r ∧ r ≤ 8) : rvT t ≤ r ↔ t ≤ r := by unfold rvT; split <;> omega
set_option maxHeartbeats 1000000 in
set_option maxRecDepth 20000 in
theorem c_X10_timeWith {S : pS} {B : Nat → Nat} {f f1 f2 : Int → Int} {b0 b1 : Int} {n : Nat} {H : Nat → Int → Int} {tx : Int → Int} {L : Nat} (hM : MS S B f f1 f2 b0 b1 n H tx L) (ok : okX f f1 f2 b0 b1 n H) {p one ot m : Int} (hp : p = 0 ∨ p = 1) (h1 : -f 1 ≤ one) (h2 : -f 1 ≤ ot) (h3 : f 2 = 1 → one ≤ 6 ∧ ot ≤ 6) (hsm : one + ot ≤ 20) (hm : m = (if p = 0 then one else ot) + f 1) (ho : (if p = 0 then ot else one) + f 1 = moF f (1 - p)) : Ct yX10_timeWith cX10_timeWith 4 (Option.some FieldType.int) 6 0 0 [.ref (B 0), .int (iI p), .int (iI one), .int (iI ot)] S (kIS (rvT (twT f p m)) (fun T => MS T B f f1 f2 b0 b1 n H tx L ∧ frM S T B)) := by
  have hM9 := hM
  obtain ⟨hs, sl, sv, ti, to, ik, kr, ks, sp, nu, rd, W, hH, hm0, hm1, hv0, hv1, hC⟩ := hM
  have okf := ok.1
  have hn6 := ok.2.2.2.2.2.1
  have q3 := moF_b (p := f 5) okf
  have q4 := moF_b (p := 1 - f 5) okf
  obtain ⟨o0, o1, o2, o3, o4, o5, o7, o9, o10, o12, o13, -⟩ := id okf
  refine Ct.ofJ (by decide +kernel) (Nat.le_of_ble_eq_true rfl) ?_
  refine J_L (L1 := [some (.ref (B 0)), some (.int (iI p)), some (.int (iI one)), some (.int (iI ot))]) rfl ?_
  refine J_aload_n (pc1 := 1) rfl (i := 0) rfl dX10_timeWith_0 rfl ?_
  refine J_iload_n (pc1 := 2) rfl (i := 2) rfl dX10_timeWith_1 rfl ?_
  refine J_iload_n (pc1 := 3) rfl (i := 3) rfl dX10_timeWith_2 rfl ?_
  refine J_iadd (pc1 := 4) dX10_timeWith_3 rfl ?_
  refine J_callVNs (pc1 := 7) (As := [.int (iI (one + ot))]) gv_X10_86 yv_X10_knows rfl (c_X10_knows ⟨W.1, W.2.1, W.2.2.1, W.2.2.2.1, W.2.2.2.2.1, W.2.2.2.2.2.1, W.2.2.2.2.2.2.1, W.2.2.2.2.2.2.2⟩ okf (sm := one + ot) (by omega) hC) dX10_timeWith_4 rfl W.1 rfl rfl (by omega) (by decide) (by omega) (by omega) (Nat.le_of_ble_eq_true rfl) (fun T1 hT1 => ?_)
  obtain ⟨ti1, ik1, kr1, ks1, W1, hT, hC1, r1⟩ := hT1
  obtain ⟨z1, z2⟩ := tw_v okf hp h1 h2 h3 hT hsm hm ho
  refine J_aload_n (pc1 := 8) rfl (i := 0) rfl dX10_timeWith_7 rfl ?_
  refine J_get (pc1 := 11) (j := 5) inUX10 (ci := 10) rfl (by decide) lf_X10_22 dX10_timeWith_8 rfl W1.1 rfl ?_
  refine J_iload_n (pc1 := 12) rfl (i := 1) rfl dX10_timeWith_11 rfl ?_
  refine J_aload_n (pc1 := 13) rfl (i := 0) rfl dX10_timeWith_12 rfl ?_
  refine J_get (pc1 := 16) (j := 0) inUX10 (ci := 10) rfl (by decide) lf_X10_7 dX10_timeWith_13 rfl W1.1 rfl ?_
  refine J_iconst (pc1 := 17) dX10_timeWith_16 rfl ?_
  refine J_iald (pc1 := 18) dX10_timeWith_17 rfl W1.2.1 (by omega) (by omega) (by omega) ?_
  refine J_iload_n (pc1 := 19) rfl (i := 2) rfl dX10_timeWith_18 rfl ?_
  refine J_iload_n (pc1 := 20) rfl (i := 3) rfl dX10_timeWith_19 rfl ?_
  refine J_aload_n (pc1 := 21) rfl (i := 0) rfl dX10_timeWith_20 rfl ?_
  refine J_get (pc1 := 24) (j := 0) inUX10 (ci := 10) rfl (by decide) lf_X10_7 dX10_timeWith_21 rfl W1.1 rfl ?_
  refine J_iconst (pc1 := 25) dX10_timeWith_24 rfl ?_
  refine J_iald (pc1 := 26) dX10_timeWith_25 rfl W1.2.1 (by omega) (by omega) (by omega) ?_
  refine J_callSI (pc1 := 29) (As := [.int (iI p), .int (iI (f 4)), .int (iI one), .int (iI ot), .int (iI (f 5))]) gs_X10_53 yv_X10_at (c_X10_at) dX10_timeWith_26 rfl rfl rfl (by omega) (by decide) (by omega) (by omega) (Nat.le_of_ble_eq_true rfl) ?_
  refine J_iald (pc1 := 30) dX10_timeWith_29 rfl W1.2.2.2.2.2.1 (by omega) (by omega) (by omega) ?_
  exact J_iret rfl rfl dX10_timeWith_30 (Nat.le_refl _) (Nat.le_refl _) (⟨by rw [z2], ⟨hs, sl, sv, ti1, to, ik1, kr1, ks1, sp, nu, rd, ⟨W1.1, W1.2.1, W1.2.2.1, W1.2.2.2.1, W1.2.2.2.2.1, W1.2.2.2.2.2.1, W1.2.2.2.2.2.2.1, W1.2.2.2.2.2.2.2⟩, hH, hm0, hm1, hv0, hv1, hC1⟩, r1⟩)
set_option maxHeartbeats 1000000 in
set_option maxRecDepth 20000 in
theorem c_X10_timeOf {S : pS} {B : Nat → Nat} {f f1 f2 : Int → Int} {b0 b1 : Int} {n : Nat} {H : Nat → Int → Int} {tx : Int → Int} {L : Nat} (hM : MS S B f f1 f2 b0 b1 n H tx L) (ok : okX f f1 f2 b0 b1 n H) {p : Int} (hp : p = 0 ∨ p = 1) : Ct yX10_timeOf cX10_timeOf 2 (Option.some FieldType.int) 7 0 0 [.ref (B 0), .int (iI p)] S (kIS (rvT (twT f p (moF f p))) (fun T => MS T B f f1 f2 b0 b1 n H tx L ∧ frM S T B)) := by
  have hM9 := hM
  obtain ⟨hs, sl, sv, ti, to, ik, kr, ks, sp, nu, rd, W, hH, hm0, hm1, hv0, hv1, hC⟩ := hM
  have okf := ok.1
  have hn6 := ok.2.2.2.2.2.1
  have q3 := moF_b (p := f 5) okf
  have q4 := moF_b (p := 1 - f 5) okf
  obtain ⟨o0, o1, o2, o3, o4, o5, o7, o9, o10, o12, o13, -⟩ := id okf
  refine Ct.ofJ (by decide +kernel) (Nat.le_of_ble_eq_true rfl) ?_
  refine J_L (L1 := [some (.ref (B 0)), some (.int (iI p))]) rfl ?_
  refine J_aload_n (pc1 := 1) rfl (i := 0) rfl dX10_timeOf_0 rfl ?_
  refine J_iload_n (pc1 := 2) rfl (i := 1) rfl dX10_timeOf_1 rfl ?_
  refine J_aload_n (pc1 := 3) rfl (i := 0) rfl dX10_timeOf_2 rfl ?_
  refine J_get (pc1 := 6) (j := 0) inUX10 (ci := 10) rfl (by decide) lf_X10_7 dX10_timeOf_3 rfl W.1 rfl ?_
  refine J_bipush (pc1 := 8) (by decide) dX10_timeOf_6 rfl ?_
  refine J_iald (pc1 := 9) dX10_timeOf_8 rfl W.2.1 (by omega) (by omega) (by omega) ?_
  refine J_aload_n (pc1 := 10) rfl (i := 0) rfl dX10_timeOf_9 rfl ?_
  refine J_get (pc1 := 13) (j := 0) inUX10 (ci := 10) rfl (by decide) lf_X10_7 dX10_timeOf_10 rfl W.1 rfl ?_
  refine J_bipush (pc1 := 15) (by decide) dX10_timeOf_13 rfl ?_
  refine J_iald (pc1 := 16) dX10_timeOf_15 rfl W.2.1 (by omega) (by omega) (by omega) ?_
  refine J_callVIs (pc1 := 19) (As := [.int (iI p), .int (iI (f 7)), .int (iI (f 8))]) gv_X10_90 yv_X10_timeWith rfl (c_X10_timeWith hM9 ok hp (one := f 7) (ot := f 8) (m := moF f p) (by omega) (by omega) (by omega) (by omega) rfl (by rcases hp with rfl | rfl <;> rfl)) dX10_timeOf_16 rfl W.1 rfl rfl (by omega) (by decide) (by omega) (by omega) (Nat.le_of_ble_eq_true rfl) (fun T1 hT1 => ?_)
  obtain ⟨M1, r1⟩ := hT1
  obtain ⟨hs1, sl1, sv1, ti1, to1, ik1, kr1, ks1, sp1, nu1, rd1, W1, hH1, hm01, hm11, hv01, hv11, hC1⟩ := id M1
  exact J_iret rfl rfl dX10_timeOf_19 (Nat.le_refl _) (Nat.le_refl _) (⟨rfl, M1, r1⟩)
set_option maxHeartbeats 1000000 in
set_option maxRecDepth 20000 in
theorem c_X10_forced {S : pS} {B : Nat → Nat} {f f1 f2 : Int → Int} {b0 b1 : Int} {n : Nat} {H : Nat → Int → Int} {tx : Int → Int} {L : Nat} (hM : MS S B f f1 f2 b0 b1 n H tx L) (ok : okX f f1 f2 b0 b1 n H) {p r : Int} (hp : -2147483648 ≤ p ∧ p < 2147483648) (hr0 : -2147483648 ≤ r ∧ r < 2147483648) : Ct yX10_forced cX10_forced 3 (Option.some FieldType.int) 8 0 0 [.ref (B 0), .int (iI p), .int (iI r)] S (kIS (foF f p r 8) (fun T => MS T B f f1 f2 b0 b1 n H tx L ∧ frM S T B)) := by
  have hM9 := hM
  obtain ⟨hs, sl, sv, ti, to, ik, kr, ks, sp, nu, rd, W, hH, hm0, hm1, hv0, hv1, hC⟩ := hM
  have okf := ok.1
  have hn6 := ok.2.2.2.2.2.1
  have tb := twT_b f p (moF f p)
  have tb2 := rvT_b tb
  have tb9 := rvT_9 tb
  refine Ct.ofJ (by decide +kernel) (Nat.le_of_ble_eq_true rfl) ?_
  refine J_L (L1 := [some (.ref (B 0)), some (.int (iI p)), some (.int (iI r))]) rfl ?_
  refine J_iload_n (pc1 := 1) rfl (i := 1) rfl dX10_forced_0 rfl ?_
  refine J_callSI (pc1 := 4) (As := [.int (iI p)]) gs_X10_125 yv_X10_isPlayer (c_X10_isPlayer (p := p) (by omega)) dX10_forced_1 rfl rfl rfl (by omega) (by decide) (by omega) (by omega) (Nat.le_of_ble_eq_true rfl) ?_
  refine J_if_ne (pc1 := 7) (tgt := 11) (bC_lo _) (bC_hi _) dX10_forced_4 rfl rfl (fun hc1 => ?_) (fun hc1 => ?_)
  · have hp : p = 0 ∨ p = 1 := bC_1 (by assumption)
    refine J_iload_n (pc1 := 12) rfl (i := 2) rfl dX10_forced_11 rfl ?_
    refine J_i2l (pc1 := 13) dX10_forced_12 rfl ?_
    refine J_lconst (pc1 := 14) (v := 0) (by decide) dX10_forced_13 rfl ?_
    refine J_ldc2 (pc1 := 17) lq_X10_135 dX10_forced_14 rfl ?_
    refine J_callSI (pc1 := 20) (As := [.long (iI r).toInt64, .long 0, .long (8 : Int64)]) gs_X10_95 yv_X10_in (c_X10_in (v := r) (lo := 0) (hi := 8) (i2l_i (by omega)) (by decide) (by decide)) dX10_forced_17 rfl rfl rfl (by omega) (by decide) (by omega) (by omega) (Nat.le_of_ble_eq_true rfl) ?_
    refine J_if_ne (pc1 := 23) (tgt := 27) (bC_lo _) (bC_hi _) dX10_forced_20 rfl rfl (fun hc2 => ?_) (fun hc2 => ?_)
    · have hr9 : 0 ≤ r ∧ r ≤ 8 := bC_1 (by assumption)
      have hle := rvT_le tb hr9
      refine J_aload_n (pc1 := 28) rfl (i := 0) rfl dX10_forced_27 rfl ?_
      refine J_iload_n (pc1 := 29) rfl (i := 1) rfl dX10_forced_28 rfl ?_
      refine J_callVIs (pc1 := 32) (As := [.int (iI p)]) gv_X10_129 yv_X10_timeOf rfl (c_X10_timeOf hM9 ok hp) dX10_forced_29 rfl W.1 rfl rfl (by omega) (by decide) (by omega) (by omega) (Nat.le_of_ble_eq_true rfl) (fun T1 hT1 => ?_)
      obtain ⟨M1, r1⟩ := hT1
      obtain ⟨hs1, sl1, sv1, ti1, to1, ik1, kr1, ks1, sp1, nu1, rd1, W1, hH1, hm01, hm11, hv01, hv11, hC1⟩ := id M1
      refine J_iload_n (pc1 := 33) rfl (i := 2) rfl dX10_forced_32 rfl ?_
      refine J_icmp_gt (pc1 := 36) (tgt := 40) (by omega) (by omega) (by omega) (by omega) dX10_forced_33 rfl rfl (fun hc3 => ?_) (fun hc3 => ?_)
      · refine J_iconst (pc1 := 41) dX10_forced_40 rfl ?_
        exact J_iret rfl rfl dX10_forced_41 (Nat.le_refl _) (Nat.le_refl _) (⟨by rw [foF_2 hp hr9, show (bC (twT f p (moF f p) ≤ r)) = 0 from by first | exact bC_t (by omega) | exact bC_f (by omega)], M1, r1⟩)
      · refine J_iconst (pc1 := 37) dX10_forced_36 rfl ?_
        refine J_goto (tgt := 41) dX10_forced_37 rfl ?_
        exact J_iret rfl rfl dX10_forced_41 (Nat.le_refl _) (Nat.le_refl _) (⟨by rw [foF_2 hp hr9, show (bC (twT f p (moF f p) ≤ r)) = 1 from by first | exact bC_t (by omega) | exact bC_f (by omega)], M1, r1⟩)
    · refine J_sipush (pc1 := 26) (by decide) dX10_forced_23 rfl ?_
      exact J_iret rfl rfl dX10_forced_26 (Nat.le_refl _) (Nat.le_refl _) (⟨by rw [show foF f p r 8 = -1002 from (if_neg (fun z => z hp)).trans (if_pos (bC_0 (by assumption)))], hM9, frM.rf⟩)
  · refine J_sipush (pc1 := 10) (by decide) dX10_forced_7 rfl ?_
    exact J_iret rfl rfl dX10_forced_10 (Nat.le_refl _) (Nat.le_refl _) (⟨by rw [show foF f p r 8 = -1001 from if_pos (bC_0 (by assumption))], hM9, frM.rf⟩)
set_option maxHeartbeats 1000000 in
set_option maxRecDepth 20000 in
theorem c_X10_ahead {S : pS} {B : Nat → Nat} {f f1 f2 : Int → Int} {b0 b1 : Int} {n : Nat} {H : Nat → Int → Int} {tx : Int → Int} {L : Nat} (hM : MS S B f f1 f2 b0 b1 n H tx L) (ok : okX f f1 f2 b0 b1 n H) {p r : Int} (hp : -2147483648 ≤ p ∧ p < 2147483648) (hr0 : -2147483648 ≤ r ∧ r < 2147483648) : Ct yX10_ahead cX10_ahead 3 (Option.some FieldType.int) 9 0 0 [.ref (B 0), .int (iI p), .int (iI r)] S (kIS (foF f p r 3) (fun T => MS T B f f1 f2 b0 b1 n H tx L ∧ frM S T B)) := by
  have hM9 := hM
  obtain ⟨hs, sl, sv, ti, to, ik, kr, ks, sp, nu, rd, W, hH, hm0, hm1, hv0, hv1, hC⟩ := hM
  have okf := ok.1
  have hn6 := ok.2.2.2.2.2.1
  refine Ct.ofJ (by decide +kernel) (Nat.le_of_ble_eq_true rfl) ?_
  refine J_L (L1 := [some (.ref (B 0)), some (.int (iI p)), some (.int (iI r))]) rfl ?_
  refine J_iload_n (pc1 := 1) rfl (i := 1) rfl dX10_ahead_0 rfl ?_
  refine J_callSI (pc1 := 4) (As := [.int (iI p)]) gs_X10_125 yv_X10_isPlayer (c_X10_isPlayer (p := p) (by omega)) dX10_ahead_1 rfl rfl rfl (by omega) (by decide) (by omega) (by omega) (Nat.le_of_ble_eq_true rfl) ?_
  refine J_if_ne (pc1 := 7) (tgt := 11) (bC_lo _) (bC_hi _) dX10_ahead_4 rfl rfl (fun hc1 => ?_) (fun hc1 => ?_)
  · have hp : p = 0 ∨ p = 1 := bC_1 (by assumption)
    refine J_iload_n (pc1 := 12) rfl (i := 2) rfl dX10_ahead_11 rfl ?_
    refine J_i2l (pc1 := 13) dX10_ahead_12 rfl ?_
    refine J_lconst (pc1 := 14) (v := 0) (by decide) dX10_ahead_13 rfl ?_
    refine J_ldc2 (pc1 := 17) lq_X10_93 dX10_ahead_14 rfl ?_
    refine J_callSI (pc1 := 20) (As := [.long (iI r).toInt64, .long 0, .long (3 : Int64)]) gs_X10_95 yv_X10_in (c_X10_in (v := r) (lo := 0) (hi := 3) (i2l_i (by omega)) (by decide) (by decide)) dX10_ahead_17 rfl rfl rfl (by omega) (by decide) (by omega) (by omega) (Nat.le_of_ble_eq_true rfl) ?_
    refine J_if_eq (pc1 := 23) (tgt := 32) (bC_lo _) (bC_hi _) dX10_ahead_20 rfl rfl (fun hc2 => ?_) (fun hc2 => ?_)
    · refine J_sipush (pc1 := 35) (by decide) dX10_ahead_32 rfl ?_
      exact J_iret rfl rfl dX10_ahead_35 (Nat.le_refl _) (Nat.le_refl _) (⟨by rw [show foF f p r 3 = -1002 from (if_neg (fun z => z hp)).trans (if_pos (bC_0 (by assumption)))], hM9, frM.rf⟩)
    · have hr9 : 0 ≤ r ∧ r ≤ 3 := bC_1 (by assumption)
      refine J_aload_n (pc1 := 24) rfl (i := 0) rfl dX10_ahead_23 rfl ?_
      refine J_iload_n (pc1 := 25) rfl (i := 1) rfl dX10_ahead_24 rfl ?_
      refine J_iload_n (pc1 := 26) rfl (i := 2) rfl dX10_ahead_25 rfl ?_
      refine J_callVIs (pc1 := 29) (As := [.int (iI p), .int (iI r)]) gv_X10_137 yv_X10_forced rfl (c_X10_forced hM9 ok (p := p) (r := r) (by omega) (by omega)) dX10_ahead_26 rfl W.1 rfl rfl (by omega) (by decide) (by omega) (by omega) (Nat.le_of_ble_eq_true rfl) (fun T1 hT1 => ?_)
      obtain ⟨M1, r1⟩ := hT1
      obtain ⟨hs1, sl1, sv1, ti1, to1, ik1, kr1, ks1, sp1, nu1, rd1, W1, hH1, hm01, hm11, hv01, hv11, hC1⟩ := id M1
      refine J_goto (tgt := 35) dX10_ahead_29 rfl ?_
      exact J_iret rfl rfl dX10_ahead_35 (Nat.le_refl _) (Nat.le_refl _) (⟨by rw [foF_2 hp (m := 3) hr9, foF_2 hp (m := 8) (by omega)], M1, r1⟩)
  · refine J_sipush (pc1 := 10) (by decide) dX10_ahead_7 rfl ?_
    exact J_iret rfl rfl dX10_ahead_10 (Nat.le_refl _) (Nat.le_refl _) (⟨by rw [show foF f p r 3 = -1001 from if_pos (bC_0 (by assumption))], hM9, frM.rf⟩)
set_option maxHeartbeats 1000000 in
set_option maxRecDepth 20000 in
theorem c_X10_bestAnswer {S : pS} {B : Nat → Nat} {f f1 f2 : Int → Int} {b0 b1 : Int} {n : Nat} {H : Nat → Int → Int} {tx : Int → Int} {L : Nat} (hM : MS S B f f1 f2 b0 b1 n H tx L) (ok : okX f f1 f2 b0 b1 n H) {b : Int} (hb : -2147483648 ≤ b ∧ b < 2147483648) : Ct yX10_bestAnswer cX10_bestAnswer 2 (Option.some FieldType.int) 7 0 0 [.ref (B 0), .int (iI b)] S (kIS (baA f b) (fun T => MS T B f f1 f2 b0 b1 n H tx L ∧ frM S T B)) := by
  have hM9 := hM
  obtain ⟨hs, sl, sv, ti, to, ik, kr, ks, sp, nu, rd, W, hH, hm0, hm1, hv0, hv1, hC⟩ := hM
  have okf := ok.1
  have hn6 := ok.2.2.2.2.2.1
  refine Ct.ofJ (by decide +kernel) (Nat.le_of_ble_eq_true rfl) ?_
  refine J_L (L1 := [some (.ref (B 0)), some (.int (iI b))]) rfl ?_
  refine J_iload_n (pc1 := 1) rfl (i := 1) rfl dX10_bestAnswer_0 rfl ?_
  refine J_i2l (pc1 := 2) dX10_bestAnswer_1 rfl ?_
  refine J_lconst (pc1 := 3) (v := 0) (by decide) dX10_bestAnswer_2 rfl ?_
  refine J_ldc2 (pc1 := 6) lq_X10_110 dX10_bestAnswer_3 rfl ?_
  refine J_callSI (pc1 := 9) (As := [.long (iI b).toInt64, .long 0, .long (14 : Int64)]) gs_X10_95 yv_X10_in (c_X10_in (v := b) (lo := 0) (hi := 14) (i2l_i (by omega)) (by decide) (by decide)) dX10_bestAnswer_6 rfl rfl rfl (by omega) (by decide) (by omega) (by omega) (Nat.le_of_ble_eq_true rfl) ?_
  refine J_if_ne (pc1 := 12) (tgt := 16) (bC_lo _) (bC_hi _) dX10_bestAnswer_9 rfl rfl (fun hc1 => ?_) (fun hc1 => ?_)
  · have hb14 : 0 ≤ b ∧ b ≤ 14 := bC_1 (by assumption)
    refine J_aload_n (pc1 := 17) rfl (i := 0) rfl dX10_bestAnswer_16 rfl ?_
    refine J_iload_n (pc1 := 18) rfl (i := 1) rfl dX10_bestAnswer_17 rfl ?_
    refine J_iconst (pc1 := 19) dX10_bestAnswer_18 rfl ?_
    refine J_callVI (pc1 := 22) (As := [.int (iI b), .int (iI 0)]) gv_X10_112 yv_X10_canPlay rfl (c_X10_canPlay ⟨W.1, W.2.1, W.2.2.1, W.2.2.2.1, W.2.2.2.2.1, W.2.2.2.2.2.1, W.2.2.2.2.2.2.1, W.2.2.2.2.2.2.2⟩ okf (b := b) (a := 0) (by omega) (by omega)) dX10_bestAnswer_19 rfl W.1 rfl rfl (by omega) (by decide) (by omega) (by omega) (Nat.le_of_ble_eq_true rfl) ?_
    refine J_if_eq (pc1 := 25) (tgt := 33) (bZ_lo _) (bZ_hi _) dX10_bestAnswer_22 rfl rfl (fun hc2 => ?_) (fun hc2 => ?_)
    · refine J_sipush (pc1 := 36) (by decide) dX10_bestAnswer_33 rfl ?_
      exact J_iret rfl rfl dX10_bestAnswer_36 (Nat.le_refl _) (Nat.le_refl _) (⟨by rw [show baA f b = -1005 from (if_neg (fun z => z hb14)).trans (if_pos (bZ_0 (P := winF f = -1006 ∧ b ≤ moF f (f 5) ∧ 0 ≤ moF f (1 - f 5)) (by assumption)))], hM9, frM.rf⟩)
    · have hal : winF f = -1006 ∧ b ≤ moF f (f 5) ∧ 0 ≤ moF f (1 - f 5) := bZ_1 (by assumption)
      have hw := hal.1
      refine J_aload_n (pc1 := 26) rfl (i := 0) rfl dX10_bestAnswer_25 rfl ?_
      refine J_iload_n (pc1 := 27) rfl (i := 1) rfl dX10_bestAnswer_26 rfl ?_
      refine J_callVIs (pc1 := 30) (As := [.int (iI b)]) gv_X10_122 yv_X10_answerTo rfl (c_X10_answerTo hM9 ok (b := b) hw (by omega) (by omega)) dX10_bestAnswer_27 rfl W.1 rfl rfl (by omega) (by decide) (by omega) (by omega) (Nat.le_of_ble_eq_true rfl) (fun T1 hT1 => ?_)
      obtain ⟨M1, r1⟩ := hT1
      obtain ⟨hs1, sl1, sv1, ti1, to1, ik1, kr1, ks1, sp1, nu1, rd1, W1, hH1, hm01, hm11, hv01, hv11, hC1⟩ := id M1
      refine J_goto (tgt := 36) dX10_bestAnswer_30 rfl ?_
      exact J_iret rfl rfl dX10_bestAnswer_36 (Nat.le_refl _) (Nat.le_refl _) (⟨by rw [show baA f b = faF f b from (if_neg (fun z => z hb14)).trans (if_neg (fun z => z hal))], M1, r1⟩)
  · refine J_sipush (pc1 := 15) (by decide) dX10_bestAnswer_12 rfl ?_
    exact J_iret rfl rfl dX10_bestAnswer_15 (Nat.le_refl _) (Nat.le_refl _) (⟨by rw [show baA f b = -1002 from if_pos (bC_0 (by assumption))], hM9, frM.rf⟩)
set_option maxHeartbeats 1000000 in
set_option maxRecDepth 20000 in
theorem c_X10_play {S : pS} {B : Nat → Nat} {f f1 f2 : Int → Int} {b0 b1 : Int} {n : Nat} {H : Nat → Int → Int} {tx : Int → Int} {L : Nat} (hM : MS S B f f1 f2 b0 b1 n H tx L) (ok : okX f f1 f2 b0 b1 n H)  : Ct yX10_play cX10_play 3 (Option.some FieldType.int) 7 0 0 [.ref (B 0)] S (KOR (winF f = -1006) (-1005) (tkF f (fbF f) (faF f (fbF f))) S (fun T => MS T B (plF f (fbF f) (faF f (fbF f))) f1 f2 b0 b1 (kpN n) (kpH n f H) tx L ∧ frM S T B)) := by
  have hM9 := hM
  obtain ⟨hs, sl, sv, ti, to, ik, kr, ks, sp, nu, rd, W, hH, hm0, hm1, hv0, hv1, hC⟩ := hM
  have okf := ok.1
  have hn6 := ok.2.2.2.2.2.1
  have q3 := moF_b (p := f 5) okf
  have q4 := moF_b (p := 1 - f 5) okf
  obtain ⟨o0, o1, o2, o3, o4, o5, o7, o9, o10, o12, o13, -⟩ := id okf
  have hfb := fbF_b okf
  have hfa := faF_b okf (fbF f)
  refine Ct.ofJ (by decide +kernel) (Nat.le_of_ble_eq_true rfl) ?_
  refine J_L (L1 := [some (.ref (B 0)), none, none]) rfl ?_
  refine J_aload_n (pc1 := 1) rfl (i := 0) rfl dX10_play_0 rfl ?_
  refine J_callVI (pc1 := 4) (As := []) gv_X10_46 yv_X10_isOver rfl (c_X10_isOver ⟨W.1, W.2.1, W.2.2.1, W.2.2.2.1, W.2.2.2.2.1, W.2.2.2.2.2.1, W.2.2.2.2.2.2.1, W.2.2.2.2.2.2.2⟩ okf) dX10_play_1 rfl W.1 rfl rfl (by omega) (by decide) (by omega) (by omega) (Nat.le_of_ble_eq_true rfl) ?_
  refine J_if_eq (pc1 := 7) (tgt := 11) (bZ_lo _) (bZ_hi _) dX10_play_4 rfl rfl (fun hc1 => ?_) (fun hc1 => ?_)
  · have hw : winF f = -1006 := Decidable.byContradiction (bZ_0 (P := winE (f 0) (f 4) ≠ -1006) (by assumption))
    have hbb : bbA f = fbF f := if_neg (fun z => z hw)
    have hal : alF f (fbF f) (faF f (fbF f)) := ⟨hw, hfb.2, hfa.2⟩
    refine J_aload_n (pc1 := 12) rfl (i := 0) rfl dX10_play_11 rfl ?_
    refine J_callVIs (pc1 := 15) (As := []) gv_X10_119 yv_X10_bestBid rfl (c_X10_bestBid hM9 ok) dX10_play_12 rfl W.1 rfl rfl (by omega) (by decide) (by omega) (by omega) (Nat.le_of_ble_eq_true rfl) (fun T1 hT1 => ?_)
    obtain ⟨M1, r1⟩ := hT1
    obtain ⟨hs1, sl1, sv1, ti1, to1, ik1, kr1, ks1, sp1, nu1, rd1, W1, hH1, hm01, hm11, hv01, hv11, hC1⟩ := id M1
    refine J_st (st1 := [.int (iI (fbF f))]) (by rw [hbb]) ?_
    refine J_istore_n (pc1 := 16) (L1 := [some (.ref (B 0)), some (.int (iI (fbF f))), none]) rfl (i := 1) dX10_play_15 rfl (by decide) rfl rfl ?_
    refine J_aload_n (pc1 := 17) rfl (i := 0) rfl dX10_play_16 rfl ?_
    refine J_iload_n (pc1 := 18) rfl (i := 1) rfl dX10_play_17 rfl ?_
    refine J_callVIs (pc1 := 21) (As := [.int (iI (fbF f))]) gv_X10_122 yv_X10_answerTo rfl (c_X10_answerTo M1 ok (b := fbF f) hw (by omega) (by omega)) dX10_play_18 rfl W1.1 rfl rfl (by omega) (by decide) (by omega) (by omega) (Nat.le_of_ble_eq_true rfl) (fun T2 hT2 => ?_)
    obtain ⟨M2, r2⟩ := hT2
    obtain ⟨hs2, sl2, sv2, ti2, to2, ik2, kr2, ks2, sp2, nu2, rd2, W2, hH2, hm02, hm12, hv02, hv12, hC2⟩ := id M2
    refine J_istore_n (pc1 := 22) (L1 := [some (.ref (B 0)), some (.int (iI (fbF f))), some (.int (iI (faF f (fbF f))))]) rfl (i := 2) dX10_play_21 rfl (by decide) rfl rfl ?_
    refine J_aload_n (pc1 := 23) rfl (i := 0) rfl dX10_play_22 rfl ?_
    refine J_callVNs (pc1 := 26) (As := []) gv_X10_105 yv_X10_changes rfl (c_X10_changes ⟨W2.1, W2.2.1, W2.2.2.1, W2.2.2.2.1, W2.2.2.2.2.1, W2.2.2.2.2.2.1, W2.2.2.2.2.2.2.1, W2.2.2.2.2.2.2.2⟩ hn6 hH2) dX10_play_23 rfl W2.1 rfl rfl (by omega) (by decide) (by omega) (by omega) (Nat.le_of_ble_eq_true rfl) (fun T3 hT3 => ?_)
    obtain ⟨hs3, W3, hH3, r3⟩ := hT3
    refine J_aload_n (pc1 := 27) rfl (i := 0) rfl dX10_play_26 rfl ?_
    refine J_iload_n (pc1 := 28) rfl (i := 1) rfl dX10_play_27 rfl ?_
    refine J_iload_n (pc1 := 29) rfl (i := 2) rfl dX10_play_28 rfl ?_
    refine J_callVIs (pc1 := 32) (As := [.int (iI (fbF f)), .int (iI (faF f (fbF f)))]) gv_X10_115 yv_X10_plays rfl (c_X10_plays ⟨W3.1, W3.2.1, W3.2.2.1, W3.2.2.2.1, W3.2.2.2.2.1, W3.2.2.2.2.2.1, W3.2.2.2.2.2.2.1, W3.2.2.2.2.2.2.2⟩ okf (b := fbF f) (a := faF f (fbF f)) (by omega) (by omega) hal) dX10_play_29 rfl W3.1 rfl rfl (by omega) (by decide) (by omega) (by omega) (Nat.le_of_ble_eq_true rfl) (fun T4 hT4 => ?_)
    obtain ⟨W4, r4⟩ := hT4
    exact J_iret rfl rfl dX10_play_32 (Nat.le_refl _) (Nat.le_refl _) (KOR_1 hw rfl ⟨⟨hs3, sl2, sv2, ti2, to2, ik2, kr2, ks2, sp2, nu2, rd2, ⟨W4.1, W4.2.1, W4.2.2.1, W4.2.2.2.1, W4.2.2.2.2.1, W4.2.2.2.2.2.1, W4.2.2.2.2.2.2.1, W4.2.2.2.2.2.2.2⟩, hH3, hm02, hm12, hv02, hv12, hC2⟩, frM.tr (frM.tr (frM.tr (r1) (r2)) (r3)) (r4)⟩)
  · refine J_sipush (pc1 := 10) (by decide) dX10_play_7 rfl ?_
    exact J_iret rfl rfl dX10_play_10 (Nat.le_refl _) (Nat.le_refl _) (KOR_0 (bZ_1 (P := winE (f 0) (f 4) ≠ -1006) (by assumption)) rfl)
