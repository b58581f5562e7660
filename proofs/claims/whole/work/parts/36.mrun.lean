/-! 36.mrun: run of the reference; its constructor -/
/-- an answer of two, the state told in both -/
def KOM (P : Prop) (x0 x1 : Int) (Q0 Q1 : pS → Prop) : Option Value → pS → Prop := fun r T => (¬ P ∧ r = some (.int (iI x0)) ∧ Q0 T) ∨ (P ∧ r = some (.int (iI x1)) ∧ Q1 T)
set_option maxHeartbeats 1000000 in
set_option maxRecDepth 20000 in
theorem rn_x {S : pS} {B : Nat → Nat} {f hs sl sv ti tx to : Int → Int} {n ik kr ks sp nu rd : Int} {L : Int} {K : Option Value → pS → Prop} {m : Nat} (W : MW S B f hs sl sv ti tx to n ik kr ks L sp nu rd) (hm : (m : Int) = rd) (hr : rd ≤ 15) (hK : ∀ T, MW T B f hs sl sv ti tx to n ik kr ks 0 sp nu rd → frM S T B → K (some (.int (iI (m : Int)))) T) : Jd yX10_run cX10_run 3 (Option.some FieldType.int) 5 0 0 K 0 0 S 20 [some (.ref (B 0)), some (.int (iI (m : Int))), none] [] := by
  refine J_iload_n (pc1 := 21) rfl (i := 1) rfl dX10_run_20 rfl ?_
  refine J_aload_n (pc1 := 22) rfl (i := 0) rfl dX10_run_21 rfl ?_
  refine J_get (pc1 := 25) (j := 14) inUX10 (ci := 10) rfl (by decide) lf_X10_171 dX10_run_22 rfl W.1 rfl ?_
  refine J_icmp_ge (pc1 := 28) (tgt := 82) (by omega) (by omega) (by omega) (by omega) dX10_run_25 rfl rfl (fun hc1 => ?_) (fun hc1 => ?_)
  · refine J_aload_n (pc1 := 83) rfl (i := 0) rfl dX10_run_82 rfl ?_
    refine J_iconst (pc1 := 84) dX10_run_83 rfl ?_
    refine J_put (pc1 := 87) (ty := .int) (j := 10) (fs1 := [.ref (B 1), .ref (B 2), .int (iI n), .ref (B 3), .ref (B 4), .ref (B 5), .int (iI ik), .int (iI kr), .int (iI ks), .ref (B 6), .int (iI 0), .int (iI sp), .int (iI nu), .ref (B 7), .int (iI rd)]) inUX10 (ci := 10) rfl (by decide) tyX10 tyX10_ok nmX10 rfl (by decide +kernel) lf_X10_132 dX10_run_84 rfl W.1 rfl (by rfl) (Nat.le_of_ble_eq_true rfl) rfl ?_
    refine J_iload_n (pc1 := 88) rfl (i := 1) rfl dX10_run_87 rfl ?_
    exact J_iret rfl rfl dX10_run_88 (Nat.le_refl _) (Nat.le_refl _) (hK _ ⟨(pu_self _ _ _), ((pu_ne _ _ (ne_IO W.2.1 W.1)).trans W.2.1), ((pu_ne _ _ (ne_IO W.2.2.1 W.1)).trans W.2.2.1), ((pu_ne _ _ (ne_IO W.2.2.2.1 W.1)).trans W.2.2.2.1), ((pu_ne _ _ (ne_IO W.2.2.2.2.1 W.1)).trans W.2.2.2.2.1), ((pu_ne _ _ (ne_IO W.2.2.2.2.2.1 W.1)).trans W.2.2.2.2.2.1), ((pu_ne _ _ (ne_IO W.2.2.2.2.2.2.1 W.1)).trans W.2.2.2.2.2.2.1), ((pu_ne _ _ (ne_IO W.2.2.2.2.2.2.2 W.1)).trans W.2.2.2.2.2.2.2)⟩ (fun x h0 h1 h2 h3 h4 h5 h6 h7 => (pu_ne _ _ h0)))
  · exact absurd hc1 (by omega)
set_option maxHeartbeats 1000000 in
set_option maxRecDepth 20000 in
theorem rn_n {S : pS} {B : Nat → Nat} {f hs sl sv ti tx to : Int → Int} {n ik kr ks sp nu rd : Int} {L : Int} {K : Option Value → pS → Prop} {m : Nat} (W : MW S B f hs sl sv ti tx to n ik kr ks L sp nu rd) (hm : (m : Int) < rd) (hr : rd ≤ 15) (okf : okF f) (hb : 0 ≤ to (2 * (m : Int)) ∧ to (2 * (m : Int)) ≤ 14) (ha : 0 ≤ to (2 * (m : Int) + 1) ∧ to (2 * (m : Int) + 1) ≤ 14) (hal : ¬ alD f (to (2 * (m : Int))) (to (2 * (m : Int) + 1))) (hK : ∀ T, MW T B f hs sl sv ti tx to n ik kr ks 0 sp nu rd → frM S T B → K (some (.int (iI (m : Int)))) T) : Jd yX10_run cX10_run 3 (Option.some FieldType.int) 5 0 0 K 0 0 S 20 [some (.ref (B 0)), some (.int (iI (m : Int))), none] [] := by
  refine J_iload_n (pc1 := 21) rfl (i := 1) rfl dX10_run_20 rfl ?_
  refine J_aload_n (pc1 := 22) rfl (i := 0) rfl dX10_run_21 rfl ?_
  refine J_get (pc1 := 25) (j := 14) inUX10 (ci := 10) rfl (by decide) lf_X10_171 dX10_run_22 rfl W.1 rfl ?_
  refine J_icmp_ge (pc1 := 28) (tgt := 82) (by omega) (by omega) (by omega) (by omega) dX10_run_25 rfl rfl (fun hc1 => ?_) (fun hc1 => ?_)
  · exact absurd hc1 (by omega)
  · refine J_aload_n (pc1 := 29) rfl (i := 0) rfl dX10_run_28 rfl ?_
    refine J_aload_n (pc1 := 30) rfl (i := 0) rfl dX10_run_29 rfl ?_
    refine J_get (pc1 := 33) (j := 13) inUX10 (ci := 10) rfl (by decide) lf_X10_28 dX10_run_30 rfl W.1 rfl ?_
    refine J_iconst (pc1 := 34) dX10_run_33 rfl ?_
    refine J_iload_n (pc1 := 35) rfl (i := 1) rfl dX10_run_34 rfl ?_
    refine J_imul (pc1 := 36) dX10_run_35 rfl ?_
    refine J_iald (pc1 := 37) dX10_run_36 rfl W.2.2.2.2.2.2.2 (by omega) (by omega) (by omega) ?_
    refine J_aload_n (pc1 := 38) rfl (i := 0) rfl dX10_run_37 rfl ?_
    refine J_get (pc1 := 41) (j := 13) inUX10 (ci := 10) rfl (by decide) lf_X10_28 dX10_run_38 rfl W.1 rfl ?_
    refine J_iconst (pc1 := 42) dX10_run_41 rfl ?_
    refine J_iload_n (pc1 := 43) rfl (i := 1) rfl dX10_run_42 rfl ?_
    refine J_imul (pc1 := 44) dX10_run_43 rfl ?_
    refine J_iconst (pc1 := 45) dX10_run_44 rfl ?_
    refine J_iadd (pc1 := 46) dX10_run_45 rfl ?_
    refine J_iald (pc1 := 47) dX10_run_46 rfl W.2.2.2.2.2.2.2 (by omega) (by omega) (by omega) ?_
    refine J_callVI (pc1 := 50) (As := [.int (iI (to (2 * (m : Int)))), .int (iI (to ((2 * (m : Int)) + 1)))]) gv_X10_112 yv_X10_canPlay rfl (c_X10_canPlay ⟨W.1, W.2.1, W.2.2.1, W.2.2.2.1, W.2.2.2.2.1, W.2.2.2.2.2.1, W.2.2.2.2.2.2.1, W.2.2.2.2.2.2.2⟩ okf (b := to (2 * (m : Int))) (a := to ((2 * (m : Int)) + 1)) (by omega) (by omega)) dX10_run_47 rfl W.1 rfl rfl (by omega) (by decide) (by omega) (by omega) (Nat.le_of_ble_eq_true rfl) ?_
    refine J_if_eq (pc1 := 53) (tgt := 82) (bZ_lo _) (bZ_hi _) dX10_run_50 rfl rfl (fun hc2 => ?_) (fun hc2 => ?_)
    · refine J_aload_n (pc1 := 83) rfl (i := 0) rfl dX10_run_82 rfl ?_
      refine J_iconst (pc1 := 84) dX10_run_83 rfl ?_
      refine J_put (pc1 := 87) (ty := .int) (j := 10) (fs1 := [.ref (B 1), .ref (B 2), .int (iI n), .ref (B 3), .ref (B 4), .ref (B 5), .int (iI ik), .int (iI kr), .int (iI ks), .ref (B 6), .int (iI 0), .int (iI sp), .int (iI nu), .ref (B 7), .int (iI rd)]) inUX10 (ci := 10) rfl (by decide) tyX10 tyX10_ok nmX10 rfl (by decide +kernel) lf_X10_132 dX10_run_84 rfl W.1 rfl (by rfl) (Nat.le_of_ble_eq_true rfl) rfl ?_
      refine J_iload_n (pc1 := 88) rfl (i := 1) rfl dX10_run_87 rfl ?_
      exact J_iret rfl rfl dX10_run_88 (Nat.le_refl _) (Nat.le_refl _) (hK _ ⟨(pu_self _ _ _), ((pu_ne _ _ (ne_IO W.2.1 W.1)).trans W.2.1), ((pu_ne _ _ (ne_IO W.2.2.1 W.1)).trans W.2.2.1), ((pu_ne _ _ (ne_IO W.2.2.2.1 W.1)).trans W.2.2.2.1), ((pu_ne _ _ (ne_IO W.2.2.2.2.1 W.1)).trans W.2.2.2.2.1), ((pu_ne _ _ (ne_IO W.2.2.2.2.2.1 W.1)).trans W.2.2.2.2.2.1), ((pu_ne _ _ (ne_IO W.2.2.2.2.2.2.1 W.1)).trans W.2.2.2.2.2.2.1), ((pu_ne _ _ (ne_IO W.2.2.2.2.2.2.2 W.1)).trans W.2.2.2.2.2.2.2)⟩ (fun x h0 h1 h2 h3 h4 h5 h6 h7 => (pu_ne _ _ h0)))
    · exact absurd (bZ_1 (P := winF f = -1006 ∧ to (2 * (m : Int)) ≤ moF f (f 5) ∧ to (2 * (m : Int) + 1) ≤ moF f (1 - f 5)) hc2) hal
set_option maxHeartbeats 1000000 in
set_option maxRecDepth 20000 in
theorem rn_y {S : pS} {B : Nat → Nat} {f hs sl sv ti tx to : Int → Int} {n ik kr ks sp nu rd : Int} {L : Int} {K : Option Value → pS → Prop} {m : Nat} (W : MW S B f hs sl sv ti tx to n ik kr ks L sp nu rd) (hm : (m : Int) < rd) (hr : rd ≤ 15) (okf : okF f) (hb : 0 ≤ to (2 * (m : Int)) ∧ to (2 * (m : Int)) ≤ 14) (ha : 0 ≤ to (2 * (m : Int) + 1) ∧ to (2 * (m : Int) + 1) ≤ 14) (hal : alD f (to (2 * (m : Int))) (to (2 * (m : Int) + 1))) (k : ∀ T, MW T B (plF f (to (2 * (m : Int))) (to (2 * (m : Int) + 1))) hs sl sv ti tx to n ik kr ks L sp nu rd → frM S T B → Jd yX10_run cX10_run 3 (Option.some FieldType.int) 5 0 0 K 0 0 T 20 [some (.ref (B 0)), some (.int (iI ((m + 1 : Nat) : Int))), none] []) : Jd yX10_run cX10_run 3 (Option.some FieldType.int) 5 0 0 K 0 0 S 20 [some (.ref (B 0)), some (.int (iI (m : Int))), none] [] := by
  refine J_iload_n (pc1 := 21) rfl (i := 1) rfl dX10_run_20 rfl ?_
  refine J_aload_n (pc1 := 22) rfl (i := 0) rfl dX10_run_21 rfl ?_
  refine J_get (pc1 := 25) (j := 14) inUX10 (ci := 10) rfl (by decide) lf_X10_171 dX10_run_22 rfl W.1 rfl ?_
  refine J_icmp_ge (pc1 := 28) (tgt := 82) (by omega) (by omega) (by omega) (by omega) dX10_run_25 rfl rfl (fun hc1 => ?_) (fun hc1 => ?_)
  · exact absurd hc1 (by omega)
  · refine J_aload_n (pc1 := 29) rfl (i := 0) rfl dX10_run_28 rfl ?_
    refine J_aload_n (pc1 := 30) rfl (i := 0) rfl dX10_run_29 rfl ?_
    refine J_get (pc1 := 33) (j := 13) inUX10 (ci := 10) rfl (by decide) lf_X10_28 dX10_run_30 rfl W.1 rfl ?_
    refine J_iconst (pc1 := 34) dX10_run_33 rfl ?_
    refine J_iload_n (pc1 := 35) rfl (i := 1) rfl dX10_run_34 rfl ?_
    refine J_imul (pc1 := 36) dX10_run_35 rfl ?_
    refine J_iald (pc1 := 37) dX10_run_36 rfl W.2.2.2.2.2.2.2 (by omega) (by omega) (by omega) ?_
    refine J_aload_n (pc1 := 38) rfl (i := 0) rfl dX10_run_37 rfl ?_
    refine J_get (pc1 := 41) (j := 13) inUX10 (ci := 10) rfl (by decide) lf_X10_28 dX10_run_38 rfl W.1 rfl ?_
    refine J_iconst (pc1 := 42) dX10_run_41 rfl ?_
    refine J_iload_n (pc1 := 43) rfl (i := 1) rfl dX10_run_42 rfl ?_
    refine J_imul (pc1 := 44) dX10_run_43 rfl ?_
    refine J_iconst (pc1 := 45) dX10_run_44 rfl ?_
    refine J_iadd (pc1 := 46) dX10_run_45 rfl ?_
    refine J_iald (pc1 := 47) dX10_run_46 rfl W.2.2.2.2.2.2.2 (by omega) (by omega) (by omega) ?_
    refine J_callVI (pc1 := 50) (As := [.int (iI (to (2 * (m : Int)))), .int (iI (to ((2 * (m : Int)) + 1)))]) gv_X10_112 yv_X10_canPlay rfl (c_X10_canPlay ⟨W.1, W.2.1, W.2.2.1, W.2.2.2.1, W.2.2.2.2.1, W.2.2.2.2.2.1, W.2.2.2.2.2.2.1, W.2.2.2.2.2.2.2⟩ okf (b := to (2 * (m : Int))) (a := to ((2 * (m : Int)) + 1)) (by omega) (by omega)) dX10_run_47 rfl W.1 rfl rfl (by omega) (by decide) (by omega) (by omega) (Nat.le_of_ble_eq_true rfl) ?_
    refine J_if_eq (pc1 := 53) (tgt := 82) (bZ_lo _) (bZ_hi _) dX10_run_50 rfl rfl (fun hc2 => ?_) (fun hc2 => ?_)
    · exact absurd hal (bZ_0 (P := winF f = -1006 ∧ to (2 * (m : Int)) ≤ moF f (f 5) ∧ to (2 * (m : Int) + 1) ≤ moF f (1 - f 5)) hc2)
    · refine J_aload_n (pc1 := 54) rfl (i := 0) rfl dX10_run_53 rfl ?_
      refine J_aload_n (pc1 := 55) rfl (i := 0) rfl dX10_run_54 rfl ?_
      refine J_get (pc1 := 58) (j := 13) inUX10 (ci := 10) rfl (by decide) lf_X10_28 dX10_run_55 rfl W.1 rfl ?_
      refine J_iconst (pc1 := 59) dX10_run_58 rfl ?_
      refine J_iload_n (pc1 := 60) rfl (i := 1) rfl dX10_run_59 rfl ?_
      refine J_imul (pc1 := 61) dX10_run_60 rfl ?_
      refine J_iald (pc1 := 62) dX10_run_61 rfl W.2.2.2.2.2.2.2 (by omega) (by omega) (by omega) ?_
      refine J_aload_n (pc1 := 63) rfl (i := 0) rfl dX10_run_62 rfl ?_
      refine J_get (pc1 := 66) (j := 13) inUX10 (ci := 10) rfl (by decide) lf_X10_28 dX10_run_63 rfl W.1 rfl ?_
      refine J_iconst (pc1 := 67) dX10_run_66 rfl ?_
      refine J_iload_n (pc1 := 68) rfl (i := 1) rfl dX10_run_67 rfl ?_
      refine J_imul (pc1 := 69) dX10_run_68 rfl ?_
      refine J_iconst (pc1 := 70) dX10_run_69 rfl ?_
      refine J_iadd (pc1 := 71) dX10_run_70 rfl ?_
      refine J_iald (pc1 := 72) dX10_run_71 rfl W.2.2.2.2.2.2.2 (by omega) (by omega) (by omega) ?_
      refine J_callVIs (pc1 := 75) (As := [.int (iI (to (2 * (m : Int)))), .int (iI (to ((2 * (m : Int)) + 1)))]) gv_X10_115 yv_X10_plays rfl (c_X10_plays ⟨W.1, W.2.1, W.2.2.1, W.2.2.2.1, W.2.2.2.2.1, W.2.2.2.2.2.1, W.2.2.2.2.2.2.1, W.2.2.2.2.2.2.2⟩ okf (b := to (2 * (m : Int))) (a := to ((2 * (m : Int)) + 1)) (by omega) (by omega) hal) dX10_run_72 rfl W.1 rfl rfl (by omega) (by decide) (by omega) (by omega) (Nat.le_of_ble_eq_true rfl) (fun T1 hT1 => ?_)
      obtain ⟨W1, r1⟩ := hT1
      refine J_istore_n (pc1 := 76) (L1 := [some (.ref (B 0)), some (.int (iI (m : Int))), some (.int (iI (tkF f (to (2 * (m : Int))) (to ((2 * (m : Int)) + 1)))))]) rfl (i := 2) dX10_run_75 rfl (by decide) rfl rfl ?_
      refine J_iinc (pc1 := 79) (L1 := [some (.ref (B 0)), some (.int (iI ((m : Int) + 1))), some (.int (iI (tkF f (to (2 * (m : Int))) (to ((2 * (m : Int)) + 1)))))]) dX10_run_76 rfl rfl (by decide) rfl rfl ?_
      refine J_goto (tgt := 20) dX10_run_79 rfl ?_
      refine J_sub (L1 := [some (.ref (B 0)), some (.int (iI ((m : Int) + 1))), none]) ⟨rfl, rfl, trivial⟩ ?_
      refine J_L (L1 := [some (.ref (B 0)), some (.int (iI ((m + 1 : Nat) : Int))), none]) (by rw [show ((m : Nat) : Int) + 1 = ((m + 1 : Nat) : Int) by omega]) ?_
      exact k _ W1 r1
theorem rn_l {B : Nat → Nat} {hs sl sv ti tx to : Int → Int} {n ik kr ks sp nu rd : Int} {L : Int} {K : Option Value → pS → Prop} (hr : rd ≤ 15) : ∀ (R : List (Int × Int)) {S : pS} {f : Int → Int} {m : Nat} (W : MW S B f hs sl sv ti tx to n ik kr ks L sp nu rd) (okf : okF f), rd = ((m + R.length : Nat) : Int) → TH to m R → (∀ T, MW T B (plL f R) hs sl sv ti tx to n ik kr ks 0 sp nu rd → frM S T B → K (some (.int (iI ((m : Int) + plN f R)))) T) → Jd yX10_run cX10_run 3 (Option.some FieldType.int) 5 0 0 K 0 0 S 20 [some (.ref (B 0)), some (.int (iI (m : Int))), none] [] := by
  intro R
  induction R with
  | nil =>
    intro S f m W okf h hT hK
    rw [List.length_nil] at h
    have e : ∀ T, MW T B f hs sl sv ti tx to n ik kr ks 0 sp nu rd → frM S T B → K (some (.int (iI (m : Int)))) T := fun T a b => by
      have q := hK T a b
      rw [show (m : Int) + plN f [] = (m : Int) from Int.add_zero _] at q
      exact q
    exact rn_x W (by omega) hr e
  | cons r R ih =>
    intro S f m W okf h hT hK
    rw [List.length_cons] at h
    obtain ⟨h1, h2, h3, h4, h5⟩ := hT
    rcases Classical.em (alD f r.1 r.2) with hal | hal
    · have e1 : plN f (r :: R) = 1 + plN (plF f r.1 r.2) R := if_pos hal
      have e2 : plL f (r :: R) = plL (plF f r.1 r.2) R := if_pos hal
      rw [e1, e2] at hK
      refine rn_y W (by omega) hr okf (by rw [h1]; exact h3) (by rw [h2]; exact h4) (by rw [h1, h2]; exact hal) (fun T W1 r1 => ?_)
      rw [h1, h2] at W1
      refine ih W1 (okF_pl okf h3.1 h4.1 hal) (by omega) h5 (fun U W2 r2 => ?_)
      have q := hK U W2 (frM.tr r1 r2)
      rw [show (m : Int) + (1 + plN (plF f r.1 r.2) R) = ((m + 1 : Nat) : Int) + plN (plF f r.1 r.2) R by omega] at q
      exact q
    · have e1 : plN f (r :: R) = 0 := if_neg hal
      have e2 : plL f (r :: R) = f := if_neg hal
      rw [e1, e2, Int.add_zero] at hK
      exact rn_n W (by omega) hr okf (by rw [h1]; exact h3) (by rw [h2]; exact h4) (by rw [h1, h2]; exact hal) hK
set_option maxHeartbeats 1000000 in
set_option maxRecDepth 20000 in
theorem c_X10_run {S : pS} {B : Nat → Nat} {f f1 f2 : Int → Int} {b0 b1 : Int} {n : Nat} {H : Nat → Int → Int} {tx : Int → Int} {L : Nat} (hM : MS S B f f1 f2 b0 b1 n H tx L) (ok : okX f f1 f2 b0 b1 n H) (hL60 : L ≤ 60) (htx : ∀ k : Int, 0 ≤ tx k ∧ tx k ≤ 255) (hdb : -2000 ≤ dfa tx L 0 0 0 ∧ dfa tx L 0 0 0 ≤ 2000) : Ct yX10_run cX10_run 3 (Option.some FieldType.int) 5 0 0 [.ref (B 0)] S (KOM (dfa tx L 0 0 0 = -1006) (-1003) (plN f (pL tx L (L + 1) 0)) (fun T => MS T B f f1 f2 b0 b1 n H tx L ∧ frM S T B) (fun T => MS T B (plL f (pL tx L (L + 1) 0)) f1 f2 b0 b1 (kpN n) (kpH n f H) tx 0 ∧ frM S T B)) := by
  have hM9 := hM
  obtain ⟨hs, sl, sv, ti, to, ik, kr, ks, sp, nu, rd, W, hH, hm0, hm1, hv0, hv1, hC⟩ := hM
  have okf := ok.1
  have hn6 := ok.2.2.2.2.2.1
  refine Ct.ofJ (by decide +kernel) (Nat.le_of_ble_eq_true rfl) ?_
  refine J_L (L1 := [some (.ref (B 0)), none, none]) rfl ?_
  refine J_aload_n (pc1 := 1) rfl (i := 0) rfl dX10_run_0 rfl ?_
  refine J_callVIs (pc1 := 4) (As := []) gv_X10_180 yv_X10_fault rfl (c_X10_fault ⟨W.1, W.2.1, W.2.2.1, W.2.2.2.1, W.2.2.2.2.1, W.2.2.2.2.2.1, W.2.2.2.2.2.2.1, W.2.2.2.2.2.2.2⟩ hL60 htx) dX10_run_1 rfl W.1 rfl rfl (by omega) (by decide) (by omega) (by omega) (Nat.le_of_ble_eq_true rfl) (fun T1 hT1 => ?_)
  obtain ⟨to1, nu1, rd1, i1, W1, r1, hR1⟩ := hT1
  refine J_sipush (pc1 := 7) (by decide) dX10_run_4 rfl ?_
  refine J_icmp_eq (pc1 := 10) (tgt := 14) (by omega) (by omega) (by decide) (by decide) dX10_run_7 rfl rfl (fun hc1 => ?_) (fun hc1 => ?_)
  · have hd9 : dfa tx L 0 0 0 = -1006 := by assumption
    have hq := hR1 hd9
    refine J_aload_n (pc1 := 15) rfl (i := 0) rfl dX10_run_14 rfl ?_
    refine J_callVNs (pc1 := 18) (As := []) gv_X10_105 yv_X10_changes rfl (c_X10_changes ⟨W1.1, W1.2.1, W1.2.2.1, W1.2.2.2.1, W1.2.2.2.2.1, W1.2.2.2.2.2.1, W1.2.2.2.2.2.2.1, W1.2.2.2.2.2.2.2⟩ hn6 hH) dX10_run_15 rfl W1.1 rfl rfl (by omega) (by decide) (by omega) (by omega) (Nat.le_of_ble_eq_true rfl) (fun T2 hT2 => ?_)
    obtain ⟨hs2, W2, hH2, r2⟩ := hT2
    refine J_iconst (pc1 := 19) dX10_run_18 rfl ?_
    refine J_istore_n (pc1 := 20) (L1 := [some (.ref (B 0)), some (.int (iI 0)), none]) rfl (i := 1) dX10_run_19 rfl (by decide) rfl rfl ?_
    refine J_L (L1 := [some (.ref (B 0)), some (.int (iI ((0 : Nat) : Int))), none]) rfl ?_
    refine rn_l hq.2.1 (pL tx L (L + 1) 0) (m := 0) ⟨W2.1, W2.2.1, W2.2.2.1, W2.2.2.2.1, W2.2.2.2.2.1, W2.2.2.2.2.2.1, W2.2.2.2.2.2.2.1, W2.2.2.2.2.2.2.2⟩ okf (by rw [hq.1]; omega) hq.2.2 (fun T W9 r9 => Or.inr ⟨hd9, by rw [show ((0 : Nat) : Int) + plN f (pL tx L (L + 1) 0) = plN f (pL tx L (L + 1) 0) from Int.zero_add _], ⟨hs2, sl, sv, ti, to1, ik, kr, ks, (i1 : Int), nu1, rd1, W9, hH2, hm0, hm1, hv0, hv1, hC⟩, frM.tr (frM.tr (r1) (r2)) r9⟩)
  · refine J_sipush (pc1 := 13) (by decide) dX10_run_10 rfl ?_
    exact J_iret rfl rfl dX10_run_13 (Nat.le_refl _) (Nat.le_refl _) (Or.inl ⟨by assumption, rfl, ⟨hs, sl, sv, ti, to1, ik, kr, ks, (i1 : Int), nu1, rd1, ⟨W1.1, W1.2.1, W1.2.2.1, W1.2.2.2.1, W1.2.2.2.2.1, W1.2.2.2.2.2.1, W1.2.2.2.2.2.2.1, W1.2.2.2.2.2.2.2⟩, hH, hm0, hm1, hv0, hv1, hC⟩, r1⟩)
set_option maxHeartbeats 4000000 in
set_option maxRecDepth 20000 in
theorem c_X10_init {S : pS} {x : Nat} (hx : S x = some (oO 10 [.null, .null, .int (iI 0), .null, .null, .null, .int (iI 0), .int (iI 0), .int (iI 0), .null, .int (iI 0), .int (iI 0), .int (iI 0), .null, .int (iI 0)])) : Ct yX10_init cX10_init 1 none 1 7 20685 [.ref x] S (kNS (fun T => ∃ B : Nat → Nat, B 0 = x ∧ (∀ H, MS T B zeF zeF zeF 0 0 0 H (fun _ => 0) 0) ∧ (∀ i, 1 ≤ i → i ≤ 7 → S (B i) = none) ∧ ∀ a, S a ≠ none → a ≠ x → T a = S a)) := by
  refine Ct.ofJ (by decide +kernel) (Nat.le_of_ble_eq_true rfl) ?_
  refine J_L (L1 := [some (.ref x)]) rfl ?_
  refine J_aload_n (pc1 := 1) rfl (i := 0) rfl dX10_init_0 rfl ?_
  refine J_objInit (pc1 := 4) lm_X10_1 li_init_Object lc_init_Object dX10_init_1 rfl (by omega) (by decide) ?_
  refine J_aload_n (pc1 := 5) rfl (i := 0) rfl dX10_init_4 rfl ?_
  refine J_bipush (pc1 := 7) (by decide) dX10_init_5 rfl ?_
  refine J_newI (pc1 := 9) (n := 19) la_int dX10_init_7 rfl rfl (by omega) (by omega) (by omega) (fun q1 n1 => ?_)
  have e_x_q1 : x ≠ q1 := ne_N hx n1
  have m1 : S q1 = none := n1
  refine J_putF (pc1 := 12) (ty := (.array .int)) (j := 0) (fs1 := [.ref q1, .null, .int (iI 0), .null, .null, .null, .int (iI 0), .int (iI 0), .int (iI 0), .null, .int (iI 0), .int (iI 0), .int (iI 0), .null, .int (iI 0)]) inUX10 (ci := 10) rfl (by decide) tyX10 tyX10_ok nmX10 rfl rfl rfl (by decide +kernel) lf_X10_7 dX10_init_9 rfl ((pu_ne _ _ e_x_q1).trans hx) rfl (by rfl) (Nat.le_of_ble_eq_true rfl) rfl ?_
  refine J_aload_n (pc1 := 13) rfl (i := 0) rfl dX10_init_12 rfl ?_
  refine J_bipush (pc1 := 15) (by decide) dX10_init_13 rfl ?_
  refine J_newI (pc1 := 17) (n := 114) la_int dX10_init_15 rfl rfl (by omega) (by omega) (by omega) (fun q2 n2 => ?_)
  have e_x_q2 : x ≠ q2 := ne_N (pu_self _ _ _) n2
  have e_q1_q2 : q1 ≠ q2 := ne_N ((pu_ne _ _ (Ne.symm e_x_q1)).trans (pu_self _ _ _)) n2
  have m2 : S q2 = none := pu_none2 (pu_none2 (n2))
  refine J_putF (pc1 := 20) (ty := (.array .int)) (j := 1) (fs1 := [.ref q1, .ref q2, .int (iI 0), .null, .null, .null, .int (iI 0), .int (iI 0), .int (iI 0), .null, .int (iI 0), .int (iI 0), .int (iI 0), .null, .int (iI 0)]) inUX10 (ci := 10) rfl (by decide) tyX10 tyX10_ok nmX10 rfl rfl rfl (by decide +kernel) lf_X10_13 dX10_init_17 rfl ((pu_ne _ _ e_x_q2).trans (pu_self _ _ _)) rfl (by rfl) (Nat.le_of_ble_eq_true rfl) rfl ?_
  refine J_aload_n (pc1 := 21) rfl (i := 0) rfl dX10_init_20 rfl ?_
  refine J_bipush (pc1 := 23) (by decide) dX10_init_21 rfl ?_
  refine J_newI (pc1 := 25) (n := 38) la_int dX10_init_23 rfl rfl (by omega) (by omega) (by omega) (fun q3 n3 => ?_)
  have e_x_q3 : x ≠ q3 := ne_N (pu_self _ _ _) n3
  have e_q1_q3 : q1 ≠ q3 := ne_N ((pu_ne _ _ (Ne.symm e_x_q1)).trans ((pu_ne _ _ e_q1_q2).trans ((pu_ne _ _ (Ne.symm e_x_q1)).trans (pu_self _ _ _)))) n3
  have e_q2_q3 : q2 ≠ q3 := ne_N ((pu_ne _ _ (Ne.symm e_x_q2)).trans (pu_self _ _ _)) n3
  have m3 : S q3 = none := pu_none2 (pu_none2 (pu_none2 (pu_none2 (n3))))
  refine J_putF (pc1 := 28) (ty := (.array .int)) (j := 3) (fs1 := [.ref q1, .ref q2, .int (iI 0), .ref q3, .null, .null, .int (iI 0), .int (iI 0), .int (iI 0), .null, .int (iI 0), .int (iI 0), .int (iI 0), .null, .int (iI 0)]) inUX10 (ci := 10) rfl (by decide) tyX10 tyX10_ok nmX10 rfl rfl rfl (by decide +kernel) lf_X10_16 dX10_init_25 rfl ((pu_ne _ _ e_x_q3).trans (pu_self _ _ _)) rfl (by rfl) (Nat.le_of_ble_eq_true rfl) rfl ?_
  refine J_aload_n (pc1 := 29) rfl (i := 0) rfl dX10_init_28 rfl ?_
  refine J_iconst (pc1 := 30) dX10_init_29 rfl ?_
  refine J_newI (pc1 := 32) (n := 2) la_int dX10_init_30 rfl rfl (by omega) (by omega) (by omega) (fun q4 n4 => ?_)
  have e_x_q4 : x ≠ q4 := ne_N (pu_self _ _ _) n4
  have e_q1_q4 : q1 ≠ q4 := ne_N ((pu_ne _ _ (Ne.symm e_x_q1)).trans ((pu_ne _ _ e_q1_q3).trans ((pu_ne _ _ (Ne.symm e_x_q1)).trans ((pu_ne _ _ e_q1_q2).trans ((pu_ne _ _ (Ne.symm e_x_q1)).trans (pu_self _ _ _)))))) n4
  have e_q2_q4 : q2 ≠ q4 := ne_N ((pu_ne _ _ (Ne.symm e_x_q2)).trans ((pu_ne _ _ e_q2_q3).trans ((pu_ne _ _ (Ne.symm e_x_q2)).trans (pu_self _ _ _)))) n4
  have e_q3_q4 : q3 ≠ q4 := ne_N ((pu_ne _ _ (Ne.symm e_x_q3)).trans (pu_self _ _ _)) n4
  have m4 : S q4 = none := pu_none2 (pu_none2 (pu_none2 (pu_none2 (pu_none2 (pu_none2 (n4))))))
  refine J_putF (pc1 := 35) (ty := (.array .int)) (j := 4) (fs1 := [.ref q1, .ref q2, .int (iI 0), .ref q3, .ref q4, .null, .int (iI 0), .int (iI 0), .int (iI 0), .null, .int (iI 0), .int (iI 0), .int (iI 0), .null, .int (iI 0)]) inUX10 (ci := 10) rfl (by decide) tyX10 tyX10_ok nmX10 rfl rfl rfl (by decide +kernel) lf_X10_19 dX10_init_32 rfl ((pu_ne _ _ e_x_q4).trans (pu_self _ _ _)) rfl (by rfl) (Nat.le_of_ble_eq_true rfl) rfl ?_
  refine J_aload_n (pc1 := 36) rfl (i := 0) rfl dX10_init_35 rfl ?_
  refine J_sipush (pc1 := 39) (by decide) dX10_init_36 rfl ?_
  refine J_newI (pc1 := 41) (n := 20412) la_int dX10_init_39 rfl rfl (by omega) (by omega) (by omega) (fun q5 n5 => ?_)
  have e_x_q5 : x ≠ q5 := ne_N (pu_self _ _ _) n5
  have e_q1_q5 : q1 ≠ q5 := ne_N ((pu_ne _ _ (Ne.symm e_x_q1)).trans ((pu_ne _ _ e_q1_q4).trans ((pu_ne _ _ (Ne.symm e_x_q1)).trans ((pu_ne _ _ e_q1_q3).trans ((pu_ne _ _ (Ne.symm e_x_q1)).trans ((pu_ne _ _ e_q1_q2).trans ((pu_ne _ _ (Ne.symm e_x_q1)).trans (pu_self _ _ _)))))))) n5
  have e_q2_q5 : q2 ≠ q5 := ne_N ((pu_ne _ _ (Ne.symm e_x_q2)).trans ((pu_ne _ _ e_q2_q4).trans ((pu_ne _ _ (Ne.symm e_x_q2)).trans ((pu_ne _ _ e_q2_q3).trans ((pu_ne _ _ (Ne.symm e_x_q2)).trans (pu_self _ _ _)))))) n5
  have e_q3_q5 : q3 ≠ q5 := ne_N ((pu_ne _ _ (Ne.symm e_x_q3)).trans ((pu_ne _ _ e_q3_q4).trans ((pu_ne _ _ (Ne.symm e_x_q3)).trans (pu_self _ _ _)))) n5
  have e_q4_q5 : q4 ≠ q5 := ne_N ((pu_ne _ _ (Ne.symm e_x_q4)).trans (pu_self _ _ _)) n5
  have m5 : S q5 = none := pu_none2 (pu_none2 (pu_none2 (pu_none2 (pu_none2 (pu_none2 (pu_none2 (pu_none2 (n5))))))))
  refine J_putF (pc1 := 44) (ty := (.array .int)) (j := 5) (fs1 := [.ref q1, .ref q2, .int (iI 0), .ref q3, .ref q4, .ref q5, .int (iI 0), .int (iI 0), .int (iI 0), .null, .int (iI 0), .int (iI 0), .int (iI 0), .null, .int (iI 0)]) inUX10 (ci := 10) rfl (by decide) tyX10 tyX10_ok nmX10 rfl rfl rfl (by decide +kernel) lf_X10_22 dX10_init_41 rfl ((pu_ne _ _ e_x_q5).trans (pu_self _ _ _)) rfl (by rfl) (Nat.le_of_ble_eq_true rfl) rfl ?_
  refine J_aload_n (pc1 := 45) rfl (i := 0) rfl dX10_init_44 rfl ?_
  refine J_bipush (pc1 := 47) (by decide) dX10_init_45 rfl ?_
  refine J_newI (pc1 := 49) (n := 60) la_int dX10_init_47 rfl rfl (by omega) (by omega) (by omega) (fun q6 n6 => ?_)
  have e_x_q6 : x ≠ q6 := ne_N (pu_self _ _ _) n6
  have e_q1_q6 : q1 ≠ q6 := ne_N ((pu_ne _ _ (Ne.symm e_x_q1)).trans ((pu_ne _ _ e_q1_q5).trans ((pu_ne _ _ (Ne.symm e_x_q1)).trans ((pu_ne _ _ e_q1_q4).trans ((pu_ne _ _ (Ne.symm e_x_q1)).trans ((pu_ne _ _ e_q1_q3).trans ((pu_ne _ _ (Ne.symm e_x_q1)).trans ((pu_ne _ _ e_q1_q2).trans ((pu_ne _ _ (Ne.symm e_x_q1)).trans (pu_self _ _ _)))))))))) n6
  have e_q2_q6 : q2 ≠ q6 := ne_N ((pu_ne _ _ (Ne.symm e_x_q2)).trans ((pu_ne _ _ e_q2_q5).trans ((pu_ne _ _ (Ne.symm e_x_q2)).trans ((pu_ne _ _ e_q2_q4).trans ((pu_ne _ _ (Ne.symm e_x_q2)).trans ((pu_ne _ _ e_q2_q3).trans ((pu_ne _ _ (Ne.symm e_x_q2)).trans (pu_self _ _ _)))))))) n6
  have e_q3_q6 : q3 ≠ q6 := ne_N ((pu_ne _ _ (Ne.symm e_x_q3)).trans ((pu_ne _ _ e_q3_q5).trans ((pu_ne _ _ (Ne.symm e_x_q3)).trans ((pu_ne _ _ e_q3_q4).trans ((pu_ne _ _ (Ne.symm e_x_q3)).trans (pu_self _ _ _)))))) n6
  have e_q4_q6 : q4 ≠ q6 := ne_N ((pu_ne _ _ (Ne.symm e_x_q4)).trans ((pu_ne _ _ e_q4_q5).trans ((pu_ne _ _ (Ne.symm e_x_q4)).trans (pu_self _ _ _)))) n6
  have e_q5_q6 : q5 ≠ q6 := ne_N ((pu_ne _ _ (Ne.symm e_x_q5)).trans (pu_self _ _ _)) n6
  have m6 : S q6 = none := pu_none2 (pu_none2 (pu_none2 (pu_none2 (pu_none2 (pu_none2 (pu_none2 (pu_none2 (pu_none2 (pu_none2 (n6))))))))))
  refine J_putF (pc1 := 52) (ty := (.array .int)) (j := 9) (fs1 := [.ref q1, .ref q2, .int (iI 0), .ref q3, .ref q4, .ref q5, .int (iI 0), .int (iI 0), .int (iI 0), .ref q6, .int (iI 0), .int (iI 0), .int (iI 0), .null, .int (iI 0)]) inUX10 (ci := 10) rfl (by decide) tyX10 tyX10_ok nmX10 rfl rfl rfl (by decide +kernel) lf_X10_25 dX10_init_49 rfl ((pu_ne _ _ e_x_q6).trans (pu_self _ _ _)) rfl (by rfl) (Nat.le_of_ble_eq_true rfl) rfl ?_
  refine J_aload_n (pc1 := 53) rfl (i := 0) rfl dX10_init_52 rfl ?_
  refine J_bipush (pc1 := 55) (by decide) dX10_init_53 rfl ?_
  refine J_newI (pc1 := 57) (n := 40) la_int dX10_init_55 rfl rfl (by omega) (by omega) (by omega) (fun q7 n7 => ?_)
  have e_x_q7 : x ≠ q7 := ne_N (pu_self _ _ _) n7
  have e_q1_q7 : q1 ≠ q7 := ne_N ((pu_ne _ _ (Ne.symm e_x_q1)).trans ((pu_ne _ _ e_q1_q6).trans ((pu_ne _ _ (Ne.symm e_x_q1)).trans ((pu_ne _ _ e_q1_q5).trans ((pu_ne _ _ (Ne.symm e_x_q1)).trans ((pu_ne _ _ e_q1_q4).trans ((pu_ne _ _ (Ne.symm e_x_q1)).trans ((pu_ne _ _ e_q1_q3).trans ((pu_ne _ _ (Ne.symm e_x_q1)).trans ((pu_ne _ _ e_q1_q2).trans ((pu_ne _ _ (Ne.symm e_x_q1)).trans (pu_self _ _ _)))))))))))) n7
  have e_q2_q7 : q2 ≠ q7 := ne_N ((pu_ne _ _ (Ne.symm e_x_q2)).trans ((pu_ne _ _ e_q2_q6).trans ((pu_ne _ _ (Ne.symm e_x_q2)).trans ((pu_ne _ _ e_q2_q5).trans ((pu_ne _ _ (Ne.symm e_x_q2)).trans ((pu_ne _ _ e_q2_q4).trans ((pu_ne _ _ (Ne.symm e_x_q2)).trans ((pu_ne _ _ e_q2_q3).trans ((pu_ne _ _ (Ne.symm e_x_q2)).trans (pu_self _ _ _)))))))))) n7
  have e_q3_q7 : q3 ≠ q7 := ne_N ((pu_ne _ _ (Ne.symm e_x_q3)).trans ((pu_ne _ _ e_q3_q6).trans ((pu_ne _ _ (Ne.symm e_x_q3)).trans ((pu_ne _ _ e_q3_q5).trans ((pu_ne _ _ (Ne.symm e_x_q3)).trans ((pu_ne _ _ e_q3_q4).trans ((pu_ne _ _ (Ne.symm e_x_q3)).trans (pu_self _ _ _)))))))) n7
  have e_q4_q7 : q4 ≠ q7 := ne_N ((pu_ne _ _ (Ne.symm e_x_q4)).trans ((pu_ne _ _ e_q4_q6).trans ((pu_ne _ _ (Ne.symm e_x_q4)).trans ((pu_ne _ _ e_q4_q5).trans ((pu_ne _ _ (Ne.symm e_x_q4)).trans (pu_self _ _ _)))))) n7
  have e_q5_q7 : q5 ≠ q7 := ne_N ((pu_ne _ _ (Ne.symm e_x_q5)).trans ((pu_ne _ _ e_q5_q6).trans ((pu_ne _ _ (Ne.symm e_x_q5)).trans (pu_self _ _ _)))) n7
  have e_q6_q7 : q6 ≠ q7 := ne_N ((pu_ne _ _ (Ne.symm e_x_q6)).trans (pu_self _ _ _)) n7
  have m7 : S q7 = none := pu_none2 (pu_none2 (pu_none2 (pu_none2 (pu_none2 (pu_none2 (pu_none2 (pu_none2 (pu_none2 (pu_none2 (pu_none2 (pu_none2 (n7))))))))))))
  refine J_putF (pc1 := 60) (ty := (.array .int)) (j := 13) (fs1 := [.ref q1, .ref q2, .int (iI 0), .ref q3, .ref q4, .ref q5, .int (iI 0), .int (iI 0), .int (iI 0), .ref q6, .int (iI 0), .int (iI 0), .int (iI 0), .ref q7, .int (iI 0)]) inUX10 (ci := 10) rfl (by decide) tyX10 tyX10_ok nmX10 rfl rfl rfl (by decide +kernel) lf_X10_28 dX10_init_57 rfl ((pu_ne _ _ e_x_q7).trans (pu_self _ _ _)) rfl (by rfl) (Nat.le_of_ble_eq_true rfl) rfl ?_
  refine J_aload_n (pc1 := 61) rfl (i := 0) rfl dX10_init_60 rfl ?_
  refine J_get (pc1 := 64) (j := 0) inUX10 (ci := 10) rfl (by decide) lf_X10_7 dX10_init_61 rfl (pu_self _ _ _) rfl ?_
  refine J_iconst (pc1 := 65) dX10_init_64 rfl ?_
  refine J_iconst (pc1 := 66) dX10_init_65 rfl ?_
  refine J_iast (pc1 := 67) dX10_init_66 rfl ((pu_ne _ _ (Ne.symm e_x_q1)).trans ((pu_ne _ _ e_q1_q7).trans ((pu_ne _ _ (Ne.symm e_x_q1)).trans ((pu_ne _ _ e_q1_q6).trans ((pu_ne _ _ (Ne.symm e_x_q1)).trans ((pu_ne _ _ e_q1_q5).trans ((pu_ne _ _ (Ne.symm e_x_q1)).trans ((pu_ne _ _ e_q1_q4).trans ((pu_ne _ _ (Ne.symm e_x_q1)).trans ((pu_ne _ _ e_q1_q3).trans ((pu_ne _ _ (Ne.symm e_x_q1)).trans ((pu_ne _ _ e_q1_q2).trans ((pu_ne _ _ (Ne.symm e_x_q1)).trans (pu_self _ _ _)))))))))))))) (by omega) (by omega) (by omega) ?_
  refine J_aload_n (pc1 := 68) rfl (i := 0) rfl dX10_init_67 rfl ?_
  refine J_get (pc1 := 71) (j := 0) inUX10 (ci := 10) rfl (by decide) lf_X10_7 dX10_init_68 rfl ((pu_ne _ _ e_x_q1).trans (pu_self _ _ _)) rfl ?_
  refine J_bipush (pc1 := 73) (by decide) dX10_init_71 rfl ?_
  refine J_iconst (pc1 := 74) dX10_init_73 rfl ?_
  refine J_iast (pc1 := 75) dX10_init_74 rfl (pu_self _ _ _) (by omega) (by omega) (by omega) ?_
  rw [pu_pu]
  refine J_aload_n (pc1 := 76) rfl (i := 0) rfl dX10_init_75 rfl ?_
  refine J_get (pc1 := 79) (j := 0) inUX10 (ci := 10) rfl (by decide) lf_X10_7 dX10_init_76 rfl ((pu_ne _ _ e_x_q1).trans (pu_self _ _ _)) rfl ?_
  refine J_bipush (pc1 := 81) (by decide) dX10_init_79 rfl ?_
  refine J_iconst (pc1 := 82) dX10_init_81 rfl ?_
  refine J_iast (pc1 := 83) dX10_init_82 rfl (pu_self _ _ _) (by omega) (by omega) (by omega) ?_
  rw [pu_pu]
  refine J_aload_n (pc1 := 84) rfl (i := 0) rfl dX10_init_83 rfl ?_
  have W : MW (pu (pu (pu (pu (pu (pu (pu (pu (pu (pu (pu (pu (pu (pu (pu S q1 (aI 19 (fun _ => 0))) x (oO 10 [.ref q1, .null, .int (iI 0), .null, .null, .null, .int (iI 0), .int (iI 0), .int (iI 0), .null, .int (iI 0), .int (iI 0), .int (iI 0), .null, .int (iI 0)])) q2 (aI 114 (fun _ => 0))) x (oO 10 [.ref q1, .ref q2, .int (iI 0), .null, .null, .null, .int (iI 0), .int (iI 0), .int (iI 0), .null, .int (iI 0), .int (iI 0), .int (iI 0), .null, .int (iI 0)])) q3 (aI 38 (fun _ => 0))) x (oO 10 [.ref q1, .ref q2, .int (iI 0), .ref q3, .null, .null, .int (iI 0), .int (iI 0), .int (iI 0), .null, .int (iI 0), .int (iI 0), .int (iI 0), .null, .int (iI 0)])) q4 (aI 2 (fun _ => 0))) x (oO 10 [.ref q1, .ref q2, .int (iI 0), .ref q3, .ref q4, .null, .int (iI 0), .int (iI 0), .int (iI 0), .null, .int (iI 0), .int (iI 0), .int (iI 0), .null, .int (iI 0)])) q5 (aI 20412 (fun _ => 0))) x (oO 10 [.ref q1, .ref q2, .int (iI 0), .ref q3, .ref q4, .ref q5, .int (iI 0), .int (iI 0), .int (iI 0), .null, .int (iI 0), .int (iI 0), .int (iI 0), .null, .int (iI 0)])) q6 (aI 60 (fun _ => 0))) x (oO 10 [.ref q1, .ref q2, .int (iI 0), .ref q3, .ref q4, .ref q5, .int (iI 0), .int (iI 0), .int (iI 0), .ref q6, .int (iI 0), .int (iI 0), .int (iI 0), .null, .int (iI 0)])) q7 (aI 40 (fun _ => 0))) x (oO 10 [.ref q1, .ref q2, .int (iI 0), .ref q3, .ref q4, .ref q5, .int (iI 0), .int (iI 0), .int (iI 0), .ref q6, .int (iI 0), .int (iI 0), .int (iI 0), .ref q7, .int (iI 0)])) q1 (aI 19 (uZ (uZ (uZ (fun _ : Int => (0 : Int)) 0 2) 9 4) 10 4))) (fun i => [x, q1, q2, q3, q4, q5, q6, q7].getD i 0) (uZ (uZ (uZ (fun _ : Int => (0 : Int)) 0 2) 9 4) 10 4) (fun _ => 0) (fun _ => 0) (fun _ => 0) (fun _ => 0) (fun _ => 0) (fun _ => 0) 0 0 0 0 0 0 0 0 := ⟨((pu_ne _ _ e_x_q1).trans (pu_self _ _ _)), (pu_self _ _ _), ((pu_ne _ _ (Ne.symm e_q1_q2)).trans ((pu_ne _ _ (Ne.symm e_x_q2)).trans ((pu_ne _ _ e_q2_q7).trans ((pu_ne _ _ (Ne.symm e_x_q2)).trans ((pu_ne _ _ e_q2_q6).trans ((pu_ne _ _ (Ne.symm e_x_q2)).trans ((pu_ne _ _ e_q2_q5).trans ((pu_ne _ _ (Ne.symm e_x_q2)).trans ((pu_ne _ _ e_q2_q4).trans ((pu_ne _ _ (Ne.symm e_x_q2)).trans ((pu_ne _ _ e_q2_q3).trans ((pu_ne _ _ (Ne.symm e_x_q2)).trans (pu_self _ _ _))))))))))))), ((pu_ne _ _ (Ne.symm e_q1_q3)).trans ((pu_ne _ _ (Ne.symm e_x_q3)).trans ((pu_ne _ _ e_q3_q7).trans ((pu_ne _ _ (Ne.symm e_x_q3)).trans ((pu_ne _ _ e_q3_q6).trans ((pu_ne _ _ (Ne.symm e_x_q3)).trans ((pu_ne _ _ e_q3_q5).trans ((pu_ne _ _ (Ne.symm e_x_q3)).trans ((pu_ne _ _ e_q3_q4).trans ((pu_ne _ _ (Ne.symm e_x_q3)).trans (pu_self _ _ _))))))))))), ((pu_ne _ _ (Ne.symm e_q1_q4)).trans ((pu_ne _ _ (Ne.symm e_x_q4)).trans ((pu_ne _ _ e_q4_q7).trans ((pu_ne _ _ (Ne.symm e_x_q4)).trans ((pu_ne _ _ e_q4_q6).trans ((pu_ne _ _ (Ne.symm e_x_q4)).trans ((pu_ne _ _ e_q4_q5).trans ((pu_ne _ _ (Ne.symm e_x_q4)).trans (pu_self _ _ _))))))))), ((pu_ne _ _ (Ne.symm e_q1_q5)).trans ((pu_ne _ _ (Ne.symm e_x_q5)).trans ((pu_ne _ _ e_q5_q7).trans ((pu_ne _ _ (Ne.symm e_x_q5)).trans ((pu_ne _ _ e_q5_q6).trans ((pu_ne _ _ (Ne.symm e_x_q5)).trans (pu_self _ _ _))))))), ((pu_ne _ _ (Ne.symm e_q1_q6)).trans ((pu_ne _ _ (Ne.symm e_x_q6)).trans ((pu_ne _ _ e_q6_q7).trans ((pu_ne _ _ (Ne.symm e_x_q6)).trans (pu_self _ _ _))))), ((pu_ne _ _ (Ne.symm e_q1_q7)).trans ((pu_ne _ _ (Ne.symm e_x_q7)).trans (pu_self _ _ _)))⟩
  have hfr : ∀ a, S a ≠ none → a ≠ x → (pu (pu (pu (pu (pu (pu (pu (pu (pu (pu (pu (pu (pu (pu (pu S q1 (aI 19 (fun _ => 0))) x (oO 10 [.ref q1, .null, .int (iI 0), .null, .null, .null, .int (iI 0), .int (iI 0), .int (iI 0), .null, .int (iI 0), .int (iI 0), .int (iI 0), .null, .int (iI 0)])) q2 (aI 114 (fun _ => 0))) x (oO 10 [.ref q1, .ref q2, .int (iI 0), .null, .null, .null, .int (iI 0), .int (iI 0), .int (iI 0), .null, .int (iI 0), .int (iI 0), .int (iI 0), .null, .int (iI 0)])) q3 (aI 38 (fun _ => 0))) x (oO 10 [.ref q1, .ref q2, .int (iI 0), .ref q3, .null, .null, .int (iI 0), .int (iI 0), .int (iI 0), .null, .int (iI 0), .int (iI 0), .int (iI 0), .null, .int (iI 0)])) q4 (aI 2 (fun _ => 0))) x (oO 10 [.ref q1, .ref q2, .int (iI 0), .ref q3, .ref q4, .null, .int (iI 0), .int (iI 0), .int (iI 0), .null, .int (iI 0), .int (iI 0), .int (iI 0), .null, .int (iI 0)])) q5 (aI 20412 (fun _ => 0))) x (oO 10 [.ref q1, .ref q2, .int (iI 0), .ref q3, .ref q4, .ref q5, .int (iI 0), .int (iI 0), .int (iI 0), .null, .int (iI 0), .int (iI 0), .int (iI 0), .null, .int (iI 0)])) q6 (aI 60 (fun _ => 0))) x (oO 10 [.ref q1, .ref q2, .int (iI 0), .ref q3, .ref q4, .ref q5, .int (iI 0), .int (iI 0), .int (iI 0), .ref q6, .int (iI 0), .int (iI 0), .int (iI 0), .null, .int (iI 0)])) q7 (aI 40 (fun _ => 0))) x (oO 10 [.ref q1, .ref q2, .int (iI 0), .ref q3, .ref q4, .ref q5, .int (iI 0), .int (iI 0), .int (iI 0), .ref q6, .int (iI 0), .int (iI 0), .int (iI 0), .ref q7, .int (iI 0)])) q1 (aI 19 (uZ (uZ (uZ (fun _ : Int => (0 : Int)) 0 2) 9 4) 10 4))) a = S a := fun a a1 a2 => ((pu_ne _ _ (fun z9 => a1 (by rw [z9]; exact m1))).trans ((pu_ne _ _ a2).trans ((pu_ne _ _ (fun z9 => a1 (by rw [z9]; exact m7))).trans ((pu_ne _ _ a2).trans ((pu_ne _ _ (fun z9 => a1 (by rw [z9]; exact m6))).trans ((pu_ne _ _ a2).trans ((pu_ne _ _ (fun z9 => a1 (by rw [z9]; exact m5))).trans ((pu_ne _ _ a2).trans ((pu_ne _ _ (fun z9 => a1 (by rw [z9]; exact m4))).trans ((pu_ne _ _ a2).trans ((pu_ne _ _ (fun z9 => a1 (by rw [z9]; exact m3))).trans ((pu_ne _ _ a2).trans ((pu_ne _ _ (fun z9 => a1 (by rw [z9]; exact m2))).trans ((pu_ne _ _ a2).trans (pu_ne _ _ (fun z9 => a1 (by rw [z9]; exact m1)))))))))))))))))
  generalize hB : (fun i => [x, q1, q2, q3, q4, q5, q6, q7].getD i 0) = B at W
  generalize (pu (pu (pu (pu (pu (pu (pu (pu (pu (pu (pu (pu (pu (pu (pu S q1 (aI 19 (fun _ => 0))) x (oO 10 [.ref q1, .null, .int (iI 0), .null, .null, .null, .int (iI 0), .int (iI 0), .int (iI 0), .null, .int (iI 0), .int (iI 0), .int (iI 0), .null, .int (iI 0)])) q2 (aI 114 (fun _ => 0))) x (oO 10 [.ref q1, .ref q2, .int (iI 0), .null, .null, .null, .int (iI 0), .int (iI 0), .int (iI 0), .null, .int (iI 0), .int (iI 0), .int (iI 0), .null, .int (iI 0)])) q3 (aI 38 (fun _ => 0))) x (oO 10 [.ref q1, .ref q2, .int (iI 0), .ref q3, .null, .null, .int (iI 0), .int (iI 0), .int (iI 0), .null, .int (iI 0), .int (iI 0), .int (iI 0), .null, .int (iI 0)])) q4 (aI 2 (fun _ => 0))) x (oO 10 [.ref q1, .ref q2, .int (iI 0), .ref q3, .ref q4, .null, .int (iI 0), .int (iI 0), .int (iI 0), .null, .int (iI 0), .int (iI 0), .int (iI 0), .null, .int (iI 0)])) q5 (aI 20412 (fun _ => 0))) x (oO 10 [.ref q1, .ref q2, .int (iI 0), .ref q3, .ref q4, .ref q5, .int (iI 0), .int (iI 0), .int (iI 0), .null, .int (iI 0), .int (iI 0), .int (iI 0), .null, .int (iI 0)])) q6 (aI 60 (fun _ => 0))) x (oO 10 [.ref q1, .ref q2, .int (iI 0), .ref q3, .ref q4, .ref q5, .int (iI 0), .int (iI 0), .int (iI 0), .ref q6, .int (iI 0), .int (iI 0), .int (iI 0), .null, .int (iI 0)])) q7 (aI 40 (fun _ => 0))) x (oO 10 [.ref q1, .ref q2, .int (iI 0), .ref q3, .ref q4, .ref q5, .int (iI 0), .int (iI 0), .int (iI 0), .ref q6, .int (iI 0), .int (iI 0), .int (iI 0), .ref q7, .int (iI 0)])) q1 (aI 19 (uZ (uZ (uZ (fun _ : Int => (0 : Int)) 0 2) 9 4) 10 4))) = T0 at W hfr ⊢
  have b0 : B 0 = x := by rw [← hB]; rfl
  have bn : ∀ i, 1 ≤ i → i ≤ 7 → S (B i) = none := fun i i1 i7 => by
    rw [← hB]
    rcases (show i = 1 ∨ i = 2 ∨ i = 3 ∨ i = 4 ∨ i = 5 ∨ i = 6 ∨ i = 7 by omega) with rfl | rfl | rfl | rfl | rfl | rfl | rfl
    · exact m1
    · exact m2
    · exact m3
    · exact m4
    · exact m5
    · exact m6
    · exact m7
  refine J_L (L1 := [some (.ref (B 0))]) (by rw [b0]) ?_
  rw [← b0]
  refine J_callVNs (As := []) gv_X10_31 yv_X10_newGame rfl (c_X10_newGame W) dX10_init_84 rfl W.1 rfl rfl (by omega) (by decide) (by omega) (by omega) (Nat.le_of_ble_eq_true rfl) (fun T1 hT1 => ?_)
  obtain ⟨W1, r1⟩ := hT1
  refine J_all W1 zeF (c19 rfl rfl rfl rfl rfl rfl rfl rfl rfl rfl rfl rfl rfl rfl rfl rfl rfl rfl rfl) (fun T2 W2 r2 => ?_)
  have hne : ∀ a, S a ≠ none → a ≠ B 0 → T2 a = S a := fun a a1 a2 => by
    have q : ∀ i, 1 ≤ i → i ≤ 7 → a ≠ B i := fun i i1 i7 z => a1 (by rw [z]; exact bn i i1 i7)
    have h := frM.tr r1 r2 a a2 (q 1 (by decide) (by decide)) (q 2 (by decide) (by decide)) (q 3 (by decide) (by decide)) (q 4 (by decide) (by decide)) (q 5 (by decide) (by decide)) (q 6 (by decide) (by decide)) (q 7 (by decide) (by decide))
    exact h.trans (hfr a a1 (by rw [← b0]; exact a2))
  exact J_vret rfl dX10_init_87 (by omega) (by omega) ⟨rfl, B, rfl, fun H => ⟨_, _, _, _, _, _, _, _, _, _, _, W2, fun i hi => absurd hi (Nat.not_lt_zero i), fun z => absurd z (by decide), fun z => absurd z (by decide), rfl, rfl, Or.inl rfl⟩, bn, hne⟩
