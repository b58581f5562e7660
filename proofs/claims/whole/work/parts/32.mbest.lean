/-! 32.mbest: bestBid, answerTo, keeps of the reference -/
set_option maxHeartbeats 1000000 in
set_option maxRecDepth 20000 in
theorem c_X10_bestBid {S : pS} {B : Nat → Nat} {f f1 f2 : Int → Int} {b0 b1 : Int} {n : Nat} {H : Nat → Int → Int} {tx : Int → Int} {L : Nat} (hM : MS S B f f1 f2 b0 b1 n H tx L) (ok : okX f f1 f2 b0 b1 n H)  : Ct yX10_bestBid cX10_bestBid 8 (Option.some FieldType.int) 6 0 0 [.ref (B 0)] S (kIS (bbA f) (fun T => MS T B f f1 f2 b0 b1 n H tx L ∧ frM S T B)) := by
  have hM9 := hM
  obtain ⟨hs, sl, sv, ti, to, ik, kr, ks, sp, nu, rd, W, hH, hm0, hm1, hv0, hv1, hC⟩ := hM
  have okf := ok.1
  have hn6 := ok.2.2.2.2.2.1
  have q3 := moF_b (p := f 5) okf
  have q4 := moF_b (p := 1 - f 5) okf
  obtain ⟨o0, o1, o2, o3, o4, o5, o7, o9, o10, o12, o13, -⟩ := id okf
  have nb := nmF_e okf (f 5)
  have na := nmF_e okf (1 - f 5)
  refine Ct.ofJ (by decide +kernel) (Nat.le_of_ble_eq_true rfl) ?_
  refine J_L (L1 := [some (.ref (B 0)), none, none, none, none, none, none, none]) rfl ?_
  refine J_aload_n (pc1 := 1) rfl (i := 0) rfl dX10_bestBid_0 rfl ?_
  refine J_callVI (pc1 := 4) (As := []) gv_X10_46 yv_X10_isOver rfl (c_X10_isOver ⟨W.1, W.2.1, W.2.2.1, W.2.2.2.1, W.2.2.2.2.1, W.2.2.2.2.2.1, W.2.2.2.2.2.2.1, W.2.2.2.2.2.2.2⟩ okf) dX10_bestBid_1 rfl W.1 rfl rfl (by omega) (by decide) (by omega) (by omega) (Nat.le_of_ble_eq_true rfl) ?_
  refine J_if_eq (pc1 := 7) (tgt := 11) (bZ_lo _) (bZ_hi _) dX10_bestBid_4 rfl rfl (fun hc1 => ?_) (fun hc1 => ?_)
  · have hw : winF f = -1006 := Decidable.byContradiction (bZ_0 (P := winE (f 0) (f 4) ≠ -1006) (by assumption))
    refine J_aload_n (pc1 := 12) rfl (i := 0) rfl dX10_bestBid_11 rfl ?_
    refine J_aload_n (pc1 := 13) rfl (i := 0) rfl dX10_bestBid_12 rfl ?_
    refine J_get (pc1 := 16) (j := 0) inUX10 (ci := 10) rfl (by decide) lf_X10_7 dX10_bestBid_13 rfl W.1 rfl ?_
    refine J_bipush (pc1 := 18) (by decide) dX10_bestBid_16 rfl ?_
    refine J_iald (pc1 := 19) dX10_bestBid_18 rfl W.2.1 (by omega) (by omega) (by omega) ?_
    refine J_aload_n (pc1 := 20) rfl (i := 0) rfl dX10_bestBid_19 rfl ?_
    refine J_get (pc1 := 23) (j := 0) inUX10 (ci := 10) rfl (by decide) lf_X10_7 dX10_bestBid_20 rfl W.1 rfl ?_
    refine J_bipush (pc1 := 25) (by decide) dX10_bestBid_23 rfl ?_
    refine J_iald (pc1 := 26) dX10_bestBid_25 rfl W.2.1 (by omega) (by omega) (by omega) ?_
    refine J_iadd (pc1 := 27) dX10_bestBid_26 rfl ?_
    refine J_callVNs (pc1 := 30) (As := [.int (iI ((f 7) + (f 8)))]) gv_X10_86 yv_X10_knows rfl (c_X10_knows ⟨W.1, W.2.1, W.2.2.1, W.2.2.2.1, W.2.2.2.2.1, W.2.2.2.2.2.1, W.2.2.2.2.2.2.1, W.2.2.2.2.2.2.2⟩ okf (sm := (f 7) + (f 8)) (by omega) hC) dX10_bestBid_27 rfl W.1 rfl rfl (by omega) (by decide) (by omega) (by omega) (Nat.le_of_ble_eq_true rfl) (fun T1 hT1 => ?_)
    obtain ⟨ti1, ik1, kr1, ks1, W1, hT, hC1, r1⟩ := hT1
    refine J_iconst (pc1 := 31) dX10_bestBid_30 rfl ?_
    refine J_istore_n (pc1 := 32) (L1 := [some (.ref (B 0)), some (.int (iI 0)), none, none, none, none, none, none]) rfl (i := 1) dX10_bestBid_31 rfl (by decide) rfl rfl ?_
    refine J_aload_n (pc1 := 33) rfl (i := 0) rfl dX10_bestBid_32 rfl ?_
    refine J_iconst (pc1 := 34) dX10_bestBid_33 rfl ?_
    refine J_callVI (pc1 := 37) (As := [.int (iI 0)]) gv_X10_143 yv_X10_worstBehind rfl (c_X10_worstBehind ⟨W1.1, W1.2.1, W1.2.2.1, W1.2.2.2.1, W1.2.2.2.2.1, W1.2.2.2.2.2.1, W1.2.2.2.2.2.2.1, W1.2.2.2.2.2.2.2⟩ okf hw hT (b := 0) (by omega) (by omega)) dX10_bestBid_34 rfl W1.1 rfl rfl (by omega) (by decide) (by omega) (by omega) (Nat.le_of_ble_eq_true rfl) ?_
    refine J_istore_n (pc1 := 38) (L1 := [some (.ref (B 0)), some (.int (iI 0)), some (.int (iI (rvT (loF f 0)))), none, none, none, none, none]) rfl (i := 2) dX10_bestBid_37 rfl (by decide) rfl rfl ?_
    refine J_iconst (pc1 := 39) dX10_bestBid_38 rfl ?_
    refine J_istore_n (pc1 := 40) (L1 := [some (.ref (B 0)), some (.int (iI 0)), some (.int (iI (rvT (loF f 0)))), some (.int (iI 0)), none, none, none, none]) rfl (i := 3) dX10_bestBid_39 rfl (by decide) rfl rfl ?_
    refine J_aload_n (pc1 := 41) rfl (i := 0) rfl dX10_bestBid_40 rfl ?_
    refine J_iconst (pc1 := 42) dX10_bestBid_41 rfl ?_
    refine J_callVI (pc1 := 45) (As := [.int (iI 0)]) gv_X10_146 yv_X10_othersBehind rfl (c_X10_othersBehind ⟨W1.1, W1.2.1, W1.2.2.1, W1.2.2.2.1, W1.2.2.2.2.1, W1.2.2.2.2.2.1, W1.2.2.2.2.2.2.1, W1.2.2.2.2.2.2.2⟩ okf hw hT (b := 0) (by omega) (by omega)) dX10_bestBid_42 rfl W1.1 rfl rfl (by omega) (by decide) (by omega) (by omega) (Nat.le_of_ble_eq_true rfl) ?_
    refine J_istore (pc1 := 47) (L1 := [some (.ref (B 0)), some (.int (iI 0)), some (.int (iI (rvT (loF f 0)))), some (.int (iI 0)), some (.int (iI (rvT (leF f 0)))), none, none, none]) dX10_bestBid_45 rfl (by decide) rfl rfl ?_
    refine J_iconst (pc1 := 48) dX10_bestBid_47 rfl ?_
    refine J_istore (pc1 := 50) (L1 := [some (.ref (B 0)), some (.int (iI 0)), some (.int (iI (rvT (loF f 0)))), some (.int (iI 0)), some (.int (iI (rvT (leF f 0)))), some (.int (iI 1)), none, none]) dX10_bestBid_48 rfl (by decide) rfl rfl ?_
    refine J_L (L1 := [some (.ref (B 0)), some (.int (iI (agU (loF f) 9 1))), some (.int (iI (rvT (mnU (loF f) 9 1)))), some (.int (iI (ahU (leF f) (-1) 1))), some (.int (iI (rvT (mxU (leF f) (-1) 1)))), some (.int (iI ((1 : Nat) : Int))), none, none]) (by rw [ag1, mn1 (loF_b f 0).2, ah1, mx1 (leF_b f 0).1] <;> rfl) ?_
    exact bb_l ⟨W1.1, W1.2.1, W1.2.2.1, W1.2.2.2.1, W1.2.2.2.2.1, W1.2.2.2.2.2.1, W1.2.2.2.2.2.2.1, W1.2.2.2.2.2.2.2⟩ okf hw hT ⟨by rw [show bbA f = fbF f from if_neg (fun z => z hw)]; rfl, ⟨hs, sl, sv, ti1, to, ik1, kr1, ks1, sp, nu, rd, ⟨W1.1, W1.2.1, W1.2.2.1, W1.2.2.2.1, W1.2.2.2.2.1, W1.2.2.2.2.2.1, W1.2.2.2.2.2.2.1, W1.2.2.2.2.2.2.2⟩, hH, hm0, hm1, hv0, hv1, hC1⟩, r1⟩ (nmF f (f 5) - 1) (j := 1) (by decide) (by omega)
  · refine J_sipush (pc1 := 10) (by decide) dX10_bestBid_7 rfl ?_
    exact J_iret rfl rfl dX10_bestBid_10 (Nat.le_refl _) (Nat.le_refl _) (⟨by rw [show bbA f = -1005 from if_pos (bZ_1 (P := winE (f 0) (f 4) ≠ -1006) (by assumption))], hM9, frM.rf⟩)
set_option maxHeartbeats 1000000 in
set_option maxRecDepth 20000 in
theorem c_X10_answerTo {S : pS} {B : Nat → Nat} {f f1 f2 : Int → Int} {b0 b1 : Int} {n : Nat} {H : Nat → Int → Int} {tx : Int → Int} {L : Nat} (hM : MS S B f f1 f2 b0 b1 n H tx L) (ok : okX f f1 f2 b0 b1 n H) {b : Int} (hw : winF f = -1006) (hb0 : 0 ≤ b) (hb1 : b ≤ moF f (f 5)) : Ct yX10_answerTo cX10_answerTo 9 (Option.some FieldType.int) 6 0 0 [.ref (B 0), .int (iI b)] S (kIS (faF f b) (fun T => MS T B f f1 f2 b0 b1 n H tx L ∧ frM S T B)) := by
  have hM9 := hM
  obtain ⟨hs, sl, sv, ti, to, ik, kr, ks, sp, nu, rd, W, hH, hm0, hm1, hv0, hv1, hC⟩ := hM
  have okf := ok.1
  have hn6 := ok.2.2.2.2.2.1
  have q3 := moF_b (p := f 5) okf
  have q4 := moF_b (p := 1 - f 5) okf
  obtain ⟨o0, o1, o2, o3, o4, o5, o7, o9, o10, o12, o13, -⟩ := id okf
  have nb := nmF_e okf (f 5)
  have na := nmF_e okf (1 - f 5)
  refine Ct.ofJ (by decide +kernel) (Nat.le_of_ble_eq_true rfl) ?_
  refine J_L (L1 := [some (.ref (B 0)), some (.int (iI b)), none, none, none, none, none, none, none]) rfl ?_
  refine J_aload_n (pc1 := 1) rfl (i := 0) rfl dX10_answerTo_0 rfl ?_
  refine J_aload_n (pc1 := 2) rfl (i := 0) rfl dX10_answerTo_1 rfl ?_
  refine J_get (pc1 := 5) (j := 0) inUX10 (ci := 10) rfl (by decide) lf_X10_7 dX10_answerTo_2 rfl W.1 rfl ?_
  refine J_bipush (pc1 := 7) (by decide) dX10_answerTo_5 rfl ?_
  refine J_iald (pc1 := 8) dX10_answerTo_7 rfl W.2.1 (by omega) (by omega) (by omega) ?_
  refine J_aload_n (pc1 := 9) rfl (i := 0) rfl dX10_answerTo_8 rfl ?_
  refine J_get (pc1 := 12) (j := 0) inUX10 (ci := 10) rfl (by decide) lf_X10_7 dX10_answerTo_9 rfl W.1 rfl ?_
  refine J_bipush (pc1 := 14) (by decide) dX10_answerTo_12 rfl ?_
  refine J_iald (pc1 := 15) dX10_answerTo_14 rfl W.2.1 (by omega) (by omega) (by omega) ?_
  refine J_iadd (pc1 := 16) dX10_answerTo_15 rfl ?_
  refine J_callVNs (pc1 := 19) (As := [.int (iI ((f 7) + (f 8)))]) gv_X10_86 yv_X10_knows rfl (c_X10_knows ⟨W.1, W.2.1, W.2.2.1, W.2.2.2.1, W.2.2.2.2.1, W.2.2.2.2.2.1, W.2.2.2.2.2.2.1, W.2.2.2.2.2.2.2⟩ okf (sm := (f 7) + (f 8)) (by omega) hC) dX10_answerTo_16 rfl W.1 rfl rfl (by omega) (by decide) (by omega) (by omega) (Nat.le_of_ble_eq_true rfl) (fun T1 hT1 => ?_)
  obtain ⟨ti1, ik1, kr1, ks1, W1, hT, hC1, r1⟩ := hT1
  refine J_iconst (pc1 := 20) dX10_answerTo_19 rfl ?_
  refine J_istore_n (pc1 := 21) (L1 := [some (.ref (B 0)), some (.int (iI b)), some (.int (iI 0)), none, none, none, none, none, none]) rfl (i := 2) dX10_answerTo_20 rfl (by decide) rfl rfl ?_
  refine J_aload_n (pc1 := 22) rfl (i := 0) rfl dX10_answerTo_21 rfl ?_
  refine J_iconst (pc1 := 23) dX10_answerTo_22 rfl ?_
  refine J_aload_n (pc1 := 24) rfl (i := 0) rfl dX10_answerTo_23 rfl ?_
  refine J_get (pc1 := 27) (j := 0) inUX10 (ci := 10) rfl (by decide) lf_X10_7 dX10_answerTo_24 rfl W1.1 rfl ?_
  refine J_iconst (pc1 := 28) dX10_answerTo_27 rfl ?_
  refine J_iald (pc1 := 29) dX10_answerTo_28 rfl W1.2.1 (by omega) (by omega) (by omega) ?_
  refine J_isub (pc1 := 30) dX10_answerTo_29 rfl ?_
  refine J_iload_n (pc1 := 31) rfl (i := 1) rfl dX10_answerTo_30 rfl ?_
  refine J_iconst (pc1 := 32) dX10_answerTo_31 rfl ?_
  refine J_callVI (pc1 := 35) (As := [.int (iI (1 - (f 5))), .int (iI b), .int (iI 0)]) gv_X10_140 yv_X10_timeBehind rfl (c_X10_timeBehind ⟨W1.1, W1.2.1, W1.2.2.1, W1.2.2.2.1, W1.2.2.2.2.1, W1.2.2.2.2.2.1, W1.2.2.2.2.2.2.1, W1.2.2.2.2.2.2.2⟩ okf hw hT (p := 1 - (f 5)) (b := b) (a := 0) (by omega) (by omega) (by omega) (by omega) (by omega)) dX10_answerTo_32 rfl W1.1 rfl rfl (by omega) (by decide) (by omega) (by omega) (Nat.le_of_ble_eq_true rfl) ?_
  refine J_istore_n (pc1 := 36) (L1 := [some (.ref (B 0)), some (.int (iI b)), some (.int (iI 0)), some (.int (iI (rvT (tbh f (1 - (f 5)) b 0)))), none, none, none, none, none]) rfl (i := 3) dX10_answerTo_35 rfl (by decide) rfl rfl ?_
  refine J_iconst (pc1 := 37) dX10_answerTo_36 rfl ?_
  refine J_istore (pc1 := 39) (L1 := [some (.ref (B 0)), some (.int (iI b)), some (.int (iI 0)), some (.int (iI (rvT (tbh f (1 - (f 5)) b 0)))), some (.int (iI 0)), none, none, none, none]) dX10_answerTo_37 rfl (by decide) rfl rfl ?_
  refine J_aload_n (pc1 := 40) rfl (i := 0) rfl dX10_answerTo_39 rfl ?_
  refine J_aload_n (pc1 := 41) rfl (i := 0) rfl dX10_answerTo_40 rfl ?_
  refine J_get (pc1 := 44) (j := 0) inUX10 (ci := 10) rfl (by decide) lf_X10_7 dX10_answerTo_41 rfl W1.1 rfl ?_
  refine J_iconst (pc1 := 45) dX10_answerTo_44 rfl ?_
  refine J_iald (pc1 := 46) dX10_answerTo_45 rfl W1.2.1 (by omega) (by omega) (by omega) ?_
  refine J_iload_n (pc1 := 47) rfl (i := 1) rfl dX10_answerTo_46 rfl ?_
  refine J_iconst (pc1 := 48) dX10_answerTo_47 rfl ?_
  refine J_callVI (pc1 := 51) (As := [.int (iI (f 5)), .int (iI b), .int (iI 0)]) gv_X10_140 yv_X10_timeBehind rfl (c_X10_timeBehind ⟨W1.1, W1.2.1, W1.2.2.1, W1.2.2.2.1, W1.2.2.2.2.1, W1.2.2.2.2.2.1, W1.2.2.2.2.2.2.1, W1.2.2.2.2.2.2.2⟩ okf hw hT (p := f 5) (b := b) (a := 0) (by omega) (by omega) (by omega) (by omega) (by omega)) dX10_answerTo_48 rfl W1.1 rfl rfl (by omega) (by decide) (by omega) (by omega) (Nat.le_of_ble_eq_true rfl) ?_
  refine J_istore (pc1 := 53) (L1 := [some (.ref (B 0)), some (.int (iI b)), some (.int (iI 0)), some (.int (iI (rvT (tbh f (1 - (f 5)) b 0)))), some (.int (iI 0)), some (.int (iI (rvT (tbh f (f 5) b 0)))), none, none, none]) dX10_answerTo_51 rfl (by decide) rfl rfl ?_
  refine J_iconst (pc1 := 54) dX10_answerTo_53 rfl ?_
  refine J_istore (pc1 := 56) (L1 := [some (.ref (B 0)), some (.int (iI b)), some (.int (iI 0)), some (.int (iI (rvT (tbh f (1 - (f 5)) b 0)))), some (.int (iI 0)), some (.int (iI (rvT (tbh f (f 5) b 0)))), some (.int (iI 1)), none, none]) dX10_answerTo_54 rfl (by decide) rfl rfl ?_
  refine J_L (L1 := [some (.ref (B 0)), some (.int (iI b)), some (.int (iI (agU (fun a => tbh f (1 - f 5) b a) 9 1))), some (.int (iI (rvT (mnU (fun a => tbh f (1 - f 5) b a) 9 1)))), some (.int (iI (ahU (fun a => tbh f (f 5) b a) (-1) 1))), some (.int (iI (rvT (mxU (fun a => tbh f (f 5) b a) (-1) 1)))), some (.int (iI ((1 : Nat) : Int))), none, none]) (by rw [ag1, mn1 (h := fun a => tbh f (1 - f 5) b a) (tbh_b f _ b 0).2, ah1, mx1 (h := fun a => tbh f (f 5) b a) (tbh_b f _ b 0).1] <;> rfl) ?_
  exact at_l ⟨W1.1, W1.2.1, W1.2.2.1, W1.2.2.2.1, W1.2.2.2.2.1, W1.2.2.2.2.2.1, W1.2.2.2.2.2.2.1, W1.2.2.2.2.2.2.2⟩ okf hw hT hb0 hb1 ⟨rfl, ⟨hs, sl, sv, ti1, to, ik1, kr1, ks1, sp, nu, rd, ⟨W1.1, W1.2.1, W1.2.2.1, W1.2.2.2.1, W1.2.2.2.2.1, W1.2.2.2.2.2.1, W1.2.2.2.2.2.2.1, W1.2.2.2.2.2.2.2⟩, hH, hm0, hm1, hv0, hv1, hC1⟩, r1⟩ (nmF f (1 - f 5) - 1) (j := 1) (by decide) (by omega)
set_option maxHeartbeats 1000000 in
set_option maxRecDepth 20000 in
theorem ke_s {S : pS} {B : Nat → Nat} {f hs sl sv ti tx to : Int → Int} {n ik kr ks L sp nu rd : Int} (W : MW S B f hs sl sv ti tx to n ik kr ks L sp nu rd) {K : Option Value → pS → Prop} (okf : okF f) (hw : winF f = -1006) (hT : TOK (f 0) (f 1) (f 2) (f 3) (f 7 + f 8) ti) {x : Int} {j : Nat} (hj : (j : Int) ≤ moF f (f 5)) (k : Jd yX10_keeps cX10_keeps 3 (Option.some FieldType.int) 6 0 0 K 0 0 S 34 [some (.ref (B 0)), some (.int (iI (x + (if loF f ((j : Nat) : Int) < 9 then 1 else 0)))), some (.int (iI ((j + 1 : Nat) : Int)))] []) : Jd yX10_keeps cX10_keeps 3 (Option.some FieldType.int) 6 0 0 K 0 0 S 34 [some (.ref (B 0)), some (.int (iI x)), some (.int (iI ((j : Nat) : Int)))] [] := by
  have q3 := moF_b (p := f 5) okf
  have q4 := moF_b (p := 1 - f 5) okf
  obtain ⟨o0, o1, o2, o3, o4, o5, o7, o9, o10, o12, o13, -⟩ := id okf
  have hh := loF_b f ((j : Nat) : Int)
  have hh2 := rvT_b hh
  have c3 := rvT_9 hh
  show Jd yX10_keeps cX10_keeps 3 (Option.some FieldType.int) 6 0 0 K 0 0 S 34 [some (.ref (B 0)), some (.int (iI x)), some (.int (iI ((j : Nat) : Int)))] []
  refine J_iload_n (pc1 := 35) rfl (i := 2) rfl dX10_keeps_34 rfl ?_
  refine J_aload_n (pc1 := 36) rfl (i := 0) rfl dX10_keeps_35 rfl ?_
  refine J_aload_n (pc1 := 37) rfl (i := 0) rfl dX10_keeps_36 rfl ?_
  refine J_get (pc1 := 40) (j := 0) inUX10 (ci := 10) rfl (by decide) lf_X10_7 dX10_keeps_37 rfl W.1 rfl ?_
  refine J_iconst (pc1 := 41) dX10_keeps_40 rfl ?_
  refine J_iald (pc1 := 42) dX10_keeps_41 rfl W.2.1 (by omega) (by omega) (by omega) ?_
  refine J_callVI (pc1 := 45) (As := [.int (iI (f 5))]) gv_X10_50 yv_X10_most rfl (c_X10_most ⟨W.1, W.2.1, W.2.2.1, W.2.2.2.1, W.2.2.2.2.1, W.2.2.2.2.2.1, W.2.2.2.2.2.2.1, W.2.2.2.2.2.2.2⟩ (p := f 5) (by omega)) dX10_keeps_42 rfl W.1 rfl rfl (by omega) (by decide) (by omega) (by omega) (Nat.le_of_ble_eq_true rfl) ?_
  refine J_icmp_gt (pc1 := 48) (tgt := 72) (by omega) (by omega) (by omega) (by omega) dX10_keeps_45 rfl rfl (fun hc1 => ?_) (fun hc1 => ?_)
  · exact absurd hc1 (by omega)
  · refine J_iload_n (pc1 := 49) rfl (i := 1) rfl dX10_keeps_48 rfl ?_
    refine J_aload_n (pc1 := 50) rfl (i := 0) rfl dX10_keeps_49 rfl ?_
    refine J_iload_n (pc1 := 51) rfl (i := 2) rfl dX10_keeps_50 rfl ?_
    refine J_callVI (pc1 := 54) (As := [.int (iI ((j : Nat) : Int))]) gv_X10_143 yv_X10_worstBehind rfl (c_X10_worstBehind ⟨W.1, W.2.1, W.2.2.1, W.2.2.2.1, W.2.2.2.2.1, W.2.2.2.2.2.1, W.2.2.2.2.2.2.1, W.2.2.2.2.2.2.2⟩ okf hw hT (b := ((j : Nat) : Int)) (by omega) (by omega)) dX10_keeps_51 rfl W.1 rfl rfl (by omega) (by decide) (by omega) (by omega) (Nat.le_of_ble_eq_true rfl) ?_
    refine J_bipush (pc1 := 56) (by decide) dX10_keeps_54 rfl ?_
    refine J_icmp_ne (pc1 := 59) (tgt := 63) (by omega) (by omega) (by decide) (by decide) dX10_keeps_56 rfl rfl (fun hc2 => ?_) (fun hc2 => ?_)
    · refine J_iconst (pc1 := 64) dX10_keeps_63 rfl ?_
      refine J_iadd (pc1 := 65) dX10_keeps_64 rfl ?_
      refine J_istore_n (pc1 := 66) (L1 := [some (.ref (B 0)), some (.int (iI (x + 1))), some (.int (iI ((j : Nat) : Int)))]) rfl (i := 1) dX10_keeps_65 rfl (by decide) rfl rfl ?_
      refine J_iinc (pc1 := 69) (L1 := [some (.ref (B 0)), some (.int (iI (x + 1))), some (.int (iI (((j : Nat) : Int) + 1)))]) dX10_keeps_66 rfl rfl (by decide) rfl rfl ?_
      refine J_goto (tgt := 34) dX10_keeps_69 rfl ?_
      refine J_L (L1 := [some (.ref (B 0)), some (.int (iI (x + (if loF f ((j : Nat) : Int) < 9 then 1 else 0)))), some (.int (iI ((j + 1 : Nat) : Int)))]) (by rw [show (x + (if loF f ((j : Nat) : Int) < 9 then 1 else 0)) = (x + 1) by first | omega | (rw [if_pos (by omega)]) | (rw [if_neg (by omega)]), show ((j + 1 : Nat) : Int) = (((j : Nat) : Int) + 1) by first | omega | (rw [if_pos (by omega)]) | (rw [if_neg (by omega)])]) ?_
      exact k
    · refine J_iconst (pc1 := 60) dX10_keeps_59 rfl ?_
      refine J_goto (tgt := 64) dX10_keeps_60 rfl ?_
      refine J_iadd (pc1 := 65) dX10_keeps_64 rfl ?_
      refine J_istore_n (pc1 := 66) (L1 := [some (.ref (B 0)), some (.int (iI (x + 0))), some (.int (iI ((j : Nat) : Int)))]) rfl (i := 1) dX10_keeps_65 rfl (by decide) rfl rfl ?_
      refine J_iinc (pc1 := 69) (L1 := [some (.ref (B 0)), some (.int (iI (x + 0))), some (.int (iI (((j : Nat) : Int) + 1)))]) dX10_keeps_66 rfl rfl (by decide) rfl rfl ?_
      refine J_goto (tgt := 34) dX10_keeps_69 rfl ?_
      refine J_L (L1 := [some (.ref (B 0)), some (.int (iI (x + (if loF f ((j : Nat) : Int) < 9 then 1 else 0)))), some (.int (iI ((j + 1 : Nat) : Int)))]) (by rw [show (x + (if loF f ((j : Nat) : Int) < 9 then 1 else 0)) = (x + 0) by first | omega | (rw [if_pos (by omega)]) | (rw [if_neg (by omega)]), show ((j + 1 : Nat) : Int) = (((j : Nat) : Int) + 1) by first | omega | (rw [if_pos (by omega)]) | (rw [if_neg (by omega)])]) ?_
      exact k
set_option maxHeartbeats 1000000 in
set_option maxRecDepth 20000 in
theorem ke_x {S : pS} {B : Nat → Nat} {f hs sl sv ti tx to : Int → Int} {n ik kr ks L sp nu rd : Int} (W : MW S B f hs sl sv ti tx to n ik kr ks L sp nu rd) {K : Option Value → pS → Prop} (okf : okF f) (hw : winF f = -1006) (hT : TOK (f 0) (f 1) (f 2) (f 3) (f 7 + f 8) ti) {x : Int} {j : Nat} (hj : (j : Int) = moF f (f 5) + 1) (hK : K (some (.int (iI x))) S)  : Jd yX10_keeps cX10_keeps 3 (Option.some FieldType.int) 6 0 0 K 0 0 S 34 [some (.ref (B 0)), some (.int (iI x)), some (.int (iI ((j : Nat) : Int)))] [] := by
  have q3 := moF_b (p := f 5) okf
  have q4 := moF_b (p := 1 - f 5) okf
  obtain ⟨o0, o1, o2, o3, o4, o5, o7, o9, o10, o12, o13, -⟩ := id okf
  have hh := loF_b f ((j : Nat) : Int)
  have hh2 := rvT_b hh
  have c3 := rvT_9 hh
  show Jd yX10_keeps cX10_keeps 3 (Option.some FieldType.int) 6 0 0 K 0 0 S 34 [some (.ref (B 0)), some (.int (iI x)), some (.int (iI ((j : Nat) : Int)))] []
  refine J_iload_n (pc1 := 35) rfl (i := 2) rfl dX10_keeps_34 rfl ?_
  refine J_aload_n (pc1 := 36) rfl (i := 0) rfl dX10_keeps_35 rfl ?_
  refine J_aload_n (pc1 := 37) rfl (i := 0) rfl dX10_keeps_36 rfl ?_
  refine J_get (pc1 := 40) (j := 0) inUX10 (ci := 10) rfl (by decide) lf_X10_7 dX10_keeps_37 rfl W.1 rfl ?_
  refine J_iconst (pc1 := 41) dX10_keeps_40 rfl ?_
  refine J_iald (pc1 := 42) dX10_keeps_41 rfl W.2.1 (by omega) (by omega) (by omega) ?_
  refine J_callVI (pc1 := 45) (As := [.int (iI (f 5))]) gv_X10_50 yv_X10_most rfl (c_X10_most ⟨W.1, W.2.1, W.2.2.1, W.2.2.2.1, W.2.2.2.2.1, W.2.2.2.2.2.1, W.2.2.2.2.2.2.1, W.2.2.2.2.2.2.2⟩ (p := f 5) (by omega)) dX10_keeps_42 rfl W.1 rfl rfl (by omega) (by decide) (by omega) (by omega) (Nat.le_of_ble_eq_true rfl) ?_
  refine J_icmp_gt (pc1 := 48) (tgt := 72) (by omega) (by omega) (by omega) (by omega) dX10_keeps_45 rfl rfl (fun hc1 => ?_) (fun hc1 => ?_)
  · refine J_iload_n (pc1 := 73) rfl (i := 1) rfl dX10_keeps_72 rfl ?_
    exact J_iret rfl rfl dX10_keeps_73 (Nat.le_refl _) (Nat.le_refl _) (hK)
  · exact absurd hc1 (by omega)
theorem ke_l {S : pS} {B : Nat → Nat} {f hs sl sv ti tx to : Int → Int} {n ik kr ks L sp nu rd : Int} (W : MW S B f hs sl sv ti tx to n ik kr ks L sp nu rd) {K : Option Value → pS → Prop} (okf : okF f) (hw : winF f = -1006) (hT : TOK (f 0) (f 1) (f 2) (f 3) (f 7 + f 8) ti) (hK : K (some (.int (iI (ckF f)))) S) : ∀ (m : Nat) {j : Nat}, j + m = nmF f (f 5) → Jd yX10_keeps cX10_keeps 3 (Option.some FieldType.int) 6 0 0 K 0 0 S 34 [some (.ref (B 0)), some (.int (iI (cnU (loF f) j))), some (.int (iI ((j : Nat) : Int)))] [] := by
  intro m
  have q4 := moF_b (p := f 5) okf
  have ne := (nmF_e okf (f 5)).1
  induction m with
  | zero =>
    intro j h
    have e : j = nmF f (f 5) := h
    subst e
    exact ke_x W okf hw hT ne hK
  | succ m ih =>
    intro j h
    refine ke_s W okf hw hT (by omega) ?_
    exact ih (j := j + 1) (by omega)
set_option maxHeartbeats 1000000 in
set_option maxRecDepth 20000 in
theorem c_X10_keeps {S : pS} {B : Nat → Nat} {f f1 f2 : Int → Int} {b0 b1 : Int} {n : Nat} {H : Nat → Int → Int} {tx : Int → Int} {L : Nat} (hM : MS S B f f1 f2 b0 b1 n H tx L) (ok : okX f f1 f2 b0 b1 n H)  : Ct yX10_keeps cX10_keeps 3 (Option.some FieldType.int) 6 0 0 [.ref (B 0)] S (kIS (ckA f) (fun T => MS T B f f1 f2 b0 b1 n H tx L ∧ frM S T B)) := by
  have hM9 := hM
  obtain ⟨hs, sl, sv, ti, to, ik, kr, ks, sp, nu, rd, W, hH, hm0, hm1, hv0, hv1, hC⟩ := hM
  have okf := ok.1
  have hn6 := ok.2.2.2.2.2.1
  have q3 := moF_b (p := f 5) okf
  have q4 := moF_b (p := 1 - f 5) okf
  obtain ⟨o0, o1, o2, o3, o4, o5, o7, o9, o10, o12, o13, -⟩ := id okf
  have nb := nmF_e okf (f 5)
  have na := nmF_e okf (1 - f 5)
  refine Ct.ofJ (by decide +kernel) (Nat.le_of_ble_eq_true rfl) ?_
  refine J_L (L1 := [some (.ref (B 0)), none, none]) rfl ?_
  refine J_aload_n (pc1 := 1) rfl (i := 0) rfl dX10_keeps_0 rfl ?_
  refine J_callVI (pc1 := 4) (As := []) gv_X10_46 yv_X10_isOver rfl (c_X10_isOver ⟨W.1, W.2.1, W.2.2.1, W.2.2.2.1, W.2.2.2.2.1, W.2.2.2.2.2.1, W.2.2.2.2.2.2.1, W.2.2.2.2.2.2.2⟩ okf) dX10_keeps_1 rfl W.1 rfl rfl (by omega) (by decide) (by omega) (by omega) (Nat.le_of_ble_eq_true rfl) ?_
  refine J_if_eq (pc1 := 7) (tgt := 11) (bZ_lo _) (bZ_hi _) dX10_keeps_4 rfl rfl (fun hc1 => ?_) (fun hc1 => ?_)
  · have hw : winF f = -1006 := Decidable.byContradiction (bZ_0 (P := winE (f 0) (f 4) ≠ -1006) (by assumption))
    refine J_aload_n (pc1 := 12) rfl (i := 0) rfl dX10_keeps_11 rfl ?_
    refine J_aload_n (pc1 := 13) rfl (i := 0) rfl dX10_keeps_12 rfl ?_
    refine J_get (pc1 := 16) (j := 0) inUX10 (ci := 10) rfl (by decide) lf_X10_7 dX10_keeps_13 rfl W.1 rfl ?_
    refine J_bipush (pc1 := 18) (by decide) dX10_keeps_16 rfl ?_
    refine J_iald (pc1 := 19) dX10_keeps_18 rfl W.2.1 (by omega) (by omega) (by omega) ?_
    refine J_aload_n (pc1 := 20) rfl (i := 0) rfl dX10_keeps_19 rfl ?_
    refine J_get (pc1 := 23) (j := 0) inUX10 (ci := 10) rfl (by decide) lf_X10_7 dX10_keeps_20 rfl W.1 rfl ?_
    refine J_bipush (pc1 := 25) (by decide) dX10_keeps_23 rfl ?_
    refine J_iald (pc1 := 26) dX10_keeps_25 rfl W.2.1 (by omega) (by omega) (by omega) ?_
    refine J_iadd (pc1 := 27) dX10_keeps_26 rfl ?_
    refine J_callVNs (pc1 := 30) (As := [.int (iI ((f 7) + (f 8)))]) gv_X10_86 yv_X10_knows rfl (c_X10_knows ⟨W.1, W.2.1, W.2.2.1, W.2.2.2.1, W.2.2.2.2.1, W.2.2.2.2.2.1, W.2.2.2.2.2.2.1, W.2.2.2.2.2.2.2⟩ okf (sm := (f 7) + (f 8)) (by omega) hC) dX10_keeps_27 rfl W.1 rfl rfl (by omega) (by decide) (by omega) (by omega) (Nat.le_of_ble_eq_true rfl) (fun T1 hT1 => ?_)
    obtain ⟨ti1, ik1, kr1, ks1, W1, hT, hC1, r1⟩ := hT1
    refine J_iconst (pc1 := 31) dX10_keeps_30 rfl ?_
    refine J_istore_n (pc1 := 32) (L1 := [some (.ref (B 0)), some (.int (iI 0)), none]) rfl (i := 1) dX10_keeps_31 rfl (by decide) rfl rfl ?_
    refine J_iconst (pc1 := 33) dX10_keeps_32 rfl ?_
    refine J_istore_n (pc1 := 34) (L1 := [some (.ref (B 0)), some (.int (iI 0)), some (.int (iI 0))]) rfl (i := 2) dX10_keeps_33 rfl (by decide) rfl rfl ?_
    exact ke_l ⟨W1.1, W1.2.1, W1.2.2.1, W1.2.2.2.1, W1.2.2.2.2.1, W1.2.2.2.2.2.1, W1.2.2.2.2.2.2.1, W1.2.2.2.2.2.2.2⟩ okf hw hT ⟨by rw [show ckA f = ckF f from if_neg (fun z => z hw)], ⟨hs, sl, sv, ti1, to, ik1, kr1, ks1, sp, nu, rd, ⟨W1.1, W1.2.1, W1.2.2.1, W1.2.2.2.1, W1.2.2.2.2.1, W1.2.2.2.2.2.1, W1.2.2.2.2.2.2.1, W1.2.2.2.2.2.2.2⟩, hH, hm0, hm1, hv0, hv1, hC1⟩, r1⟩ (nmF f (f 5)) (j := 0) (by omega)
  · refine J_sipush (pc1 := 10) (by decide) dX10_keeps_7 rfl ?_
    exact J_iret rfl rfl dX10_keeps_10 (Nat.le_refl _) (Nat.le_refl _) (⟨by rw [show ckA f = -1005 from if_pos (bZ_1 (P := winE (f 0) (f 4) ≠ -1006) (by assumption))], hM9, frM.rf⟩)
