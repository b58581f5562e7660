theorem ne_N' {S : pS} {a b : Nat} (ha : S a ≠ none) (hb : S b = none) : a ≠ b := fun q => ha (by rw [q, hb])
/-! 16.keep: keepState, takeBack, Slot -/
theorem cpG {S : pS} {N : Nat} {G Z O : Nat → Nat} {F : Nat → Int → Int} (A : FAM S N G Z O F) {i j : Nat} (hi : i < N) (hj : j < N) (hij : j ≠ i) : Ct yX2_copyFrom cX2_copyFrom 2 none 1 0 0 [.ref (G i), .ref (G j)] S (kNS (UG S (G i) (Z i) (O i) (F j))) :=
  c_X2_copyFrom (A.1 i hi) (A.1 j hj) (fun e => hij (A.2.1 j i hj hi e)) (fun e => hij (A.2.2.1 j i hj hi e)) (A.2.2.2.2 j i hj hi) (A.2.2.2.2 i j hi hj).symm (fun e => hij (A.2.2.2.1 j i hj hi e))
theorem KKS_a {S S9 : pS} {h ha n m : Nat} {G Z O : Nat → Nat} {F : Nat → Int → Int} (H : HisOK S h ha n m G) (A : FAM S (3 + m) G Z O F) (hn : n < m) (hU : UG S (G (3 + n)) (Z (3 + n)) (O (3 + n)) (F 0) S9) : KKS S h ha n m G Z O F (pu S9 h (oO 3 [.ref ha, .int (iI ((n : Int) + 1))])) := by
  obtain ⟨H1, ⟨st, H2, H3, H4⟩, H5, H6⟩ := H
  obtain ⟨b1, b2, b3, b4⟩ := A.1 (3 + n) (by omega)
  have e1 : S9 h = S h := hU.2 _ (ne_ci H1 b1 (by decide)) (ne_ci H1 b2 (by decide)) (ne_ci H1 b3 (by decide))
  have e2 : S9 ha = S ha := hU.2 _ (ne_QO H2 b1) (ne_QO H2 b2) (ne_QO H2 b3)
  have hk : kpN n = n + 1 := if_neg (by omega)
  refine ⟨m, G, Z, O, upN F (3 + n) (F 0), ⟨?_, ⟨st, (pu_ne _ _ (ne_QO (e2.trans H2) (e1.trans H1))).trans (e2.trans H2), H3, H4⟩, by omega, H6⟩, FAM_fr (FAM_set A (by omega) hU) (fun a ci fs ha' hc => pu_ne _ _ (ne_ci ha' (e1.trans H1) (by omega))), fun i hi => ?_, fun _ _ => rfl, fun a a1 a2 a3 a4 => ?_⟩
  · rw [hk, pu_self]
    rfl
  · unfold kpF
    rw [if_neg (by omega)]
    rfl
  · obtain ⟨c1, c2, c3⟩ := a4 (3 + n) (by omega) (by omega)
    exact (pu_ne _ _ a2).trans (hU.2 _ c1 c2 c3)
theorem KKS_b {S S2 S4 : pS} {h ha n m q z o : Nat} {G Z O : Nat → Nat} {F : Nat → Int → Int} {st : Int → Option Nat} (H : HisOK S h ha n m G) (A : FAM S (3 + m) G Z O F) (hn : n = m) (hn6 : n < 6) (H2 : S ha = some (aQ 0 6 st)) (sq : S q = none) (sz : S z = none) (so : S o = none) (hg : IsG S2 q z o zeF) (fr : ∀ a, S a ≠ none → S2 a = S a) (hU : UG (pu S2 ha (aQ 0 6 (uQ st n (some q)))) q z o (F 0) S4) : KKS S h ha n m G Z O F (pu S4 h (oO 3 [.ref ha, .int (iI ((n : Int) + 1))])) := by
  obtain ⟨H1, ⟨st', H2', H3, H4⟩, H5, H6⟩ := H
  have est : ∀ i : Nat, i < 6 → st i = st' i := fun i hi => by
    rw [H2] at H2'
    have e9 := congrArg (fun x : Option pE => match x with | some (.inr (.inr y)) => y.2.2 i | _ => none) H2'
    exact e9
  have nn : ∀ {a : Nat} {e : pE}, S a = some e → S a ≠ none := fun h z => by rw [h] at z; cases z
  have s2h : S2 h = some (oO 3 [.ref ha, .int (iI (n : Int))]) := (fr _ (nn H1)).trans H1
  have s2a : S2 ha = some (aQ 0 6 st) := (fr _ (nn H2)).trans H2
  have A2 := FAM_new A hg sq sz so fr
  have A3 := FAM_fr (T := pu S2 ha (aQ 0 6 (uQ st n (some q)))) A2 (fun a ci fs ha' _ => pu_ne _ _ (ne_OQ ha' s2a))
  have hU' : UG (pu S2 ha (aQ 0 6 (uQ st n (some q)))) (upN G (3 + m) q (3 + m)) (upN Z (3 + m) z (3 + m)) (upN O (3 + m) o (3 + m)) (F 0) S4 := by
    rw [upN_s, upN_s, upN_s]
    exact hU
  have A4 := FAM_set A3 (i := 3 + m) (by omega) hU'
  have s3h : (pu S2 ha (aQ 0 6 (uQ st n (some q)))) h = some (oO 3 [.ref ha, .int (iI (n : Int))]) := (pu_ne _ _ (ne_OQ s2h s2a)).trans s2h
  have s3a : (pu S2 ha (aQ 0 6 (uQ st n (some q)))) ha = some (aQ 0 6 (uQ st n (some q))) := pu_self _ _ _
  have h3 : IsG (pu S2 ha (aQ 0 6 (uQ st n (some q)))) q z o zeF := by
    have := A3.1 (3 + m) (by omega)
    rw [upN_s, upN_s, upN_s, upN_s] at this
    exact this
  have e1 : S4 h = _ := (hU.2 _ (ne_ci s3h h3.1 (by decide)) (ne_ci s3h h3.2.1 (by decide)) (ne_ci s3h h3.2.2.1 (by decide))).trans s3h
  have e2 : S4 ha = _ := (hU.2 _ (ne_QO s3a h3.1) (ne_QO s3a h3.2.1) (ne_QO s3a h3.2.2.1)).trans s3a
  have hk : kpN n = n + 1 := if_neg (by omega)
  refine ⟨m + 1, upN G (3 + m) q, upN Z (3 + m) z, upN O (3 + m) o, upN (upN F (3 + m) zeF) (3 + m) (F 0), ⟨?_, ⟨uQ st n (some q), (pu_ne _ _ (ne_QO e2 e1)).trans e2, fun i hi => ?_, fun i hi hi6 => ?_⟩, by omega, by omega⟩, FAM_fr A4 (fun a ci fs ha' hc => pu_ne _ _ (ne_ci ha' e1 (by omega))), fun i hi => ?_, fun i hi => upN_n _ _ (by omega), fun a a1 a2 a3 a4 => ?_⟩
  · rw [hk, pu_self]
    rfl
  · unfold uQ
    by_cases e : (i : Int) = n
    · rw [if_pos e, show 3 + i = 3 + m by omega, upN_s]
    · rw [if_neg e, upN_n _ _ (by omega), est i (by omega)]
      exact H3 i (by omega)
  · unfold uQ
    rw [if_neg (by omega), est i hi6]
    exact H4 i (by omega) hi6
  · unfold kpF
    rw [if_neg (by omega)]
    by_cases e : i = 3 + n
    · rw [if_pos e, e, hn, upN_s]
    · rw [if_neg e, upN_n _ _ (by omega), upN_n _ _ (by omega)]
  · exact (pu_ne _ _ a2).trans ((hU.2 _ (ne_N' a1 sq) (ne_N' a1 sz) (ne_N' a1 so)).trans ((pu_ne _ _ a3).trans (fr a a1)))
theorem KKS_c {S T T' : pS} {h ha : Nat} {G Z O : Nat → Nat} {F : Nat → Int → Int} (hD : KDO S h ha G T) (h5 : KKS T h ha 5 6 (fun i => G (rtF i)) (fun i => Z (rtF i)) (fun i => O (rtF i)) (fun i => F (rtF i)) T') : KKS S h ha 6 6 G Z O F T' := by
  obtain ⟨m', G', Z', O', F', k1, k2, k3, k4, k5⟩ := h5
  refine ⟨m', G', Z', O', F', k1, k2, fun i hi => ?_, fun i hi => ?_, fun a a1 a2 a3 a4 => ?_⟩
  · rw [k3 i hi]
    have h9 : i = 0 ∨ i = 1 ∨ i = 2 ∨ i = 3 ∨ i = 4 ∨ i = 5 ∨ i = 6 ∨ i = 7 ∨ i = 8 := by
      have : kpN 6 = 6 := rfl
      omega
    rcases h9 with rfl | rfl | rfl | rfl | rfl | rfl | rfl | rfl | rfl <;> rfl
  · rw [k4 i hi]
    have h9 : i = 0 ∨ i = 1 ∨ i = 2 := by omega
    rcases h9 with rfl | rfl | rfl <;> rfl
  · have e : T a = S a := hD.2.2 a a2 a3
    rw [k5 a (by rw [e]; exact a1) a2 a3 (fun i i1 i2 => a4 (rtF i) ?_ ?_), e]
    · unfold rtF; (repeat' split) <;> omega
    · unfold rtF; (repeat' split) <;> omega
set_option maxHeartbeats 1000000 in
set_option maxRecDepth 20000 in
theorem keep_a {P : pS → Prop} {S : pS} {h ha n m : Nat} {G Z O : Nat → Nat} {F : Nat → Int → Int} (H : HisOK S h ha n m G) (A : FAM S (3 + m) G Z O F) (hn6 : n < 6) (hnm : n < m) (hP : ∀ T9, KKS S h ha n m G Z O F T9 → P T9) : Jd yX3_keepState cX3_keepState 2 none 3 3 20 (kNS P) 0 0 S 16 [some (.ref h), some (.ref (G 0))] [] := by
  obtain ⟨H1, ⟨st, H2, H3, H4⟩, H5, H6⟩ := id H
  refine J_aload_n (pc1 := 17) rfl (i := 0) rfl dX3_keepState_16 rfl ?_
  refine J_get (pc1 := 20) (j := 1) inUX3 (ci := 3) rfl (by decide) lf_X3_17 dX3_keepState_17 rfl H1 rfl ?_
  refine J_if_lt (pc1 := 23) (tgt := 86) (by omega) (by omega) dX3_keepState_20 rfl rfl (fun hc1 => ?_) (fun hc1 => ?_)
  · exact absurd hc1 (by omega)
  · refine J_aload_n (pc1 := 24) rfl (i := 0) rfl dX3_keepState_23 rfl ?_
    refine J_get (pc1 := 27) (j := 1) inUX3 (ci := 3) rfl (by decide) lf_X3_17 dX3_keepState_24 rfl H1 rfl ?_
    refine J_aload_n (pc1 := 28) rfl (i := 0) rfl dX3_keepState_27 rfl ?_
    refine J_get (pc1 := 31) (j := 0) inUX3 (ci := 3) rfl (by decide) lf_X3_11 dX3_keepState_28 rfl H1 rfl ?_
    refine J_alenG (pc1 := 32) dX3_keepState_31 rfl H2 ?_
    refine J_icmp_ge (pc1 := 35) (tgt := 86) (by omega) (by omega) (by decide) (by decide) dX3_keepState_32 rfl rfl (fun hc2 => ?_) (fun hc2 => ?_)
    · exact absurd hc2 (by omega)
    · refine J_aload_n (pc1 := 36) rfl (i := 0) rfl dX3_keepState_35 rfl ?_
      refine J_get (pc1 := 39) (j := 0) inUX3 (ci := 3) rfl (by decide) lf_X3_11 dX3_keepState_36 rfl H1 rfl ?_
      refine J_aload_n (pc1 := 40) rfl (i := 0) rfl dX3_keepState_39 rfl ?_
      refine J_get (pc1 := 43) (j := 1) inUX3 (ci := 3) rfl (by decide) lf_X3_17 dX3_keepState_40 rfl H1 rfl ?_
      refine J_aaldG (pc1 := 44) dX3_keepState_43 rfl H2 (by omega) (by omega) (by omega) ?_
      refine J_st (st1 := [.ref (G (3 + n))]) (by rw [show st (n : Int) = some (G (3 + n)) from H3 n hnm]; rfl) ?_
      refine J_ifnonnull (tgt := 63) dX3_keepState_44 rfl ?_
      refine J_aload_n (pc1 := 64) rfl (i := 0) rfl dX3_keepState_63 rfl ?_
      refine J_get (pc1 := 67) (j := 0) inUX3 (ci := 3) rfl (by decide) lf_X3_11 dX3_keepState_64 rfl H1 rfl ?_
      refine J_aload_n (pc1 := 68) rfl (i := 0) rfl dX3_keepState_67 rfl ?_
      refine J_get (pc1 := 71) (j := 1) inUX3 (ci := 3) rfl (by decide) lf_X3_17 dX3_keepState_68 rfl H1 rfl ?_
      refine J_aaldG (pc1 := 72) dX3_keepState_71 rfl H2 (by omega) (by omega) (by omega) ?_
      refine J_st (st1 := [.ref (G (3 + n))]) (by rw [show st (n : Int) = some (G (3 + n)) from H3 n hnm]; rfl) ?_
      refine J_aload_n (pc1 := 73) rfl (i := 1) rfl dX3_keepState_72 rfl ?_
      refine J_callVNs (pc1 := 76) (As := [.ref (G 0)]) gv_X3_25 yv_X2_copyFrom rfl (cpG A (i := 3 + n) (j := 0) (by omega) (by omega) (by omega)) dX3_keepState_73 rfl (A.1 (3 + n) (by omega)).1 rfl rfl (by omega) (by decide) (by omega) (by omega) (Nat.le_of_ble_eq_true rfl) (fun S9 hU => ?_)
      obtain ⟨b1, b2, b3, b4⟩ := A.1 (3 + n) (by omega)
      have e1 := (hU.2 _ (ne_ci H1 b1 (by decide)) (ne_ci H1 b2 (by decide)) (ne_ci H1 b3 (by decide))).trans H1
      refine J_aload_n (pc1 := 77) rfl (i := 0) rfl dX3_keepState_76 rfl ?_
      refine J_dup (pc1 := 78) rfl dX3_keepState_77 rfl ?_
      refine J_get (pc1 := 81) (j := 1) inUX3 (ci := 3) rfl (by decide) lf_X3_17 dX3_keepState_78 rfl e1 rfl ?_
      refine J_iconst (pc1 := 82) dX3_keepState_81 rfl ?_
      refine J_iadd (pc1 := 83) dX3_keepState_82 rfl ?_
      refine J_put (pc1 := 86) (ty := .int) (j := 1) (fs1 := [.ref ha, .int (iI ((n : Int) + 1))]) inUX3 (ci := 3) rfl (by decide) tyX3 tyX3_ok nmX3 rfl (by decide +kernel) lf_X3_17 dX3_keepState_83 rfl e1 rfl (by rfl) (Nat.le_of_ble_eq_true rfl) rfl ?_
      exact J_vret rfl dX3_keepState_86 (by omega) (by omega) (⟨rfl, hP _ (KKS_a H A hnm hU)⟩)
set_option maxHeartbeats 1000000 in
set_option maxRecDepth 20000 in
theorem keep_b {P : pS → Prop} {S : pS} {h ha n m : Nat} {G Z O : Nat → Nat} {F : Nat → Int → Int} (H : HisOK S h ha n m G) (A : FAM S (3 + m) G Z O F) (hn6 : n < 6) (hnm : n = m) (hP : ∀ T9, KKS S h ha n m G Z O F T9 → P T9) : Jd yX3_keepState cX3_keepState 2 none 3 3 20 (kNS P) 0 0 S 16 [some (.ref h), some (.ref (G 0))] [] := by
  obtain ⟨H1, ⟨st, H2, H3, H4⟩, H5, H6⟩ := id H
  refine J_aload_n (pc1 := 17) rfl (i := 0) rfl dX3_keepState_16 rfl ?_
  refine J_get (pc1 := 20) (j := 1) inUX3 (ci := 3) rfl (by decide) lf_X3_17 dX3_keepState_17 rfl H1 rfl ?_
  refine J_if_lt (pc1 := 23) (tgt := 86) (by omega) (by omega) dX3_keepState_20 rfl rfl (fun hc1 => ?_) (fun hc1 => ?_)
  · exact absurd hc1 (by omega)
  · refine J_aload_n (pc1 := 24) rfl (i := 0) rfl dX3_keepState_23 rfl ?_
    refine J_get (pc1 := 27) (j := 1) inUX3 (ci := 3) rfl (by decide) lf_X3_17 dX3_keepState_24 rfl H1 rfl ?_
    refine J_aload_n (pc1 := 28) rfl (i := 0) rfl dX3_keepState_27 rfl ?_
    refine J_get (pc1 := 31) (j := 0) inUX3 (ci := 3) rfl (by decide) lf_X3_11 dX3_keepState_28 rfl H1 rfl ?_
    refine J_alenG (pc1 := 32) dX3_keepState_31 rfl H2 ?_
    refine J_icmp_ge (pc1 := 35) (tgt := 86) (by omega) (by omega) (by decide) (by decide) dX3_keepState_32 rfl rfl (fun hc2 => ?_) (fun hc2 => ?_)
    · exact absurd hc2 (by omega)
    · refine J_aload_n (pc1 := 36) rfl (i := 0) rfl dX3_keepState_35 rfl ?_
      refine J_get (pc1 := 39) (j := 0) inUX3 (ci := 3) rfl (by decide) lf_X3_11 dX3_keepState_36 rfl H1 rfl ?_
      refine J_aload_n (pc1 := 40) rfl (i := 0) rfl dX3_keepState_39 rfl ?_
      refine J_get (pc1 := 43) (j := 1) inUX3 (ci := 3) rfl (by decide) lf_X3_17 dX3_keepState_40 rfl H1 rfl ?_
      refine J_aaldG (pc1 := 44) dX3_keepState_43 rfl H2 (by omega) (by omega) (by omega) ?_
      refine J_st (st1 := [.null]) (by rw [show st (n : Int) = none from H4 n (by omega) hn6]; rfl) ?_
      refine J_ifnonnullN (pc1 := 47) dX3_keepState_44 rfl ?_
      refine J_aload_n (pc1 := 48) rfl (i := 0) rfl dX3_keepState_47 rfl ?_
      refine J_get (pc1 := 51) (j := 0) inUX3 (ci := 3) rfl (by decide) lf_X3_11 dX3_keepState_48 rfl H1 rfl ?_
      refine J_aload_n (pc1 := 52) rfl (i := 0) rfl dX3_keepState_51 rfl ?_
      refine J_get (pc1 := 55) (j := 1) inUX3 (ci := 3) rfl (by decide) lf_X3_17 dX3_keepState_52 rfl H1 rfl ?_
      refine J_new (pc1 := 58) (fs := [.int (iI 0), .int (iI 0), .int (iI 0), .int (iI 0), .int (iI 0), .int (iI 0), .int (iI 0), .int (iI 0), .null, .null]) inUX2 (ci := 2) rfl tyX2 tyX2_ok ll_X3_9 lt_X2 ln_X2 df_X2 dX3_keepState_55 rfl (by omega) (by omega) (fun q1 n1 => ?_)
      have e_h_q1 : h ≠ q1 := ne_N H1 n1
      have e_ha_q1 : ha ≠ q1 := ne_N H2 n1
      have e__G_0__q1 : (G 0) ≠ q1 := ne_N (A.1 0 (by omega)).1 n1
      refine J_dup (pc1 := 59) rfl dX3_keepState_58 rfl ?_
      refine J_callIN_Ns (pc1 := 62) (As := []) (good_C lc_X2_init) yv_X2_init ln_X2 (host := "BorrowedHours") (List.mem_of_getElem? (i := 7) rfl) li_X2_init (c_X2_init (pu_self _ _ _)) dX3_keepState_59 rfl rfl rfl (by omega) (by decide) (by omega) (by omega) (Nat.le_of_ble_eq_true rfl) (fun S2 hS2 => ?_)
      obtain ⟨z, o, hG2, z1, z2, fr9⟩ := hS2
      have sq : S q1 = none := n1
      have sz : S z = none := pu_none2 z1
      have so : S o = none := pu_none2 z2
      have nn : ∀ {a : Nat} {e : pE}, S a = some e → S a ≠ none := fun h z => by rw [h] at z; cases z
      have fr2 : ∀ a, S a ≠ none → S2 a = S a := fun a a1 => (fr9 a (by rw [pu_ne _ _ (ne_N' a1 sq)]; exact a1) (ne_N' a1 sq)).trans (pu_ne _ _ (ne_N' a1 sq))
      refine J_aastG (pc1 := 63) dX3_keepState_62 rfl ((fr2 _ (nn H2)).trans H2) hG2.1 (by omega) (by omega) (by omega) ?_
      refine J_aload_n (pc1 := 64) rfl (i := 0) rfl dX3_keepState_63 rfl ?_
      refine J_get (pc1 := 67) (j := 0) inUX3 (ci := 3) rfl (by decide) lf_X3_11 dX3_keepState_64 rfl ((pu_ne _ _ (ne_OQ H1 H2)).trans ((fr2 _ (nn H1)).trans H1)) rfl ?_
      refine J_aload_n (pc1 := 68) rfl (i := 0) rfl dX3_keepState_67 rfl ?_
      refine J_get (pc1 := 71) (j := 1) inUX3 (ci := 3) rfl (by decide) lf_X3_17 dX3_keepState_68 rfl ((pu_ne _ _ (ne_OQ H1 H2)).trans ((fr2 _ (nn H1)).trans H1)) rfl ?_
      refine J_aaldG (pc1 := 72) dX3_keepState_71 rfl (pu_self _ _ _) (by omega) (by omega) (by omega) ?_
      refine J_st (st1 := [.ref q1]) (by rw [show (uQ st (n : Int) (some q1)) (n : Int) = some q1 from (show uQ st n (some q1) (n : Int) = some q1 from if_pos rfl)]; rfl) ?_
      refine J_aload_n (pc1 := 73) rfl (i := 1) rfl dX3_keepState_72 rfl ?_
      have s2h : S2 h = some (oO 3 [.ref ha, .int (iI (n : Int))]) := (fr2 _ (nn H1)).trans H1
      have s2a : S2 ha = some (aQ 0 6 st) := (fr2 _ (nn H2)).trans H2
      have A3 := FAM_fr (T := pu S2 ha (aQ 0 6 (uQ st n (some q1)))) (FAM_new A hG2 sq sz so fr2) (fun a ci fs ha' _ => pu_ne _ _ (ne_OQ ha' s2a))
      have hcp := cpG A3 (i := 3 + m) (j := 0) (by omega) (by omega) (by omega)
      rw [upN_s, upN_s, upN_s, upN_n _ _ (show (0 : Nat) ≠ 3 + m by omega), upN_n _ _ (show (0 : Nat) ≠ 3 + m by omega)] at hcp
      have h3 := A3.1 (3 + m) (by omega)
      rw [upN_s, upN_s, upN_s, upN_s] at h3
      have s3h := (pu_ne S2 (aQ 0 6 (uQ st n (some q1))) (ne_OQ s2h s2a)).trans s2h
      refine J_callVNs (pc1 := 76) (As := [.ref (G 0)]) gv_X3_25 yv_X2_copyFrom rfl hcp dX3_keepState_73 rfl h3.1 rfl rfl (by omega) (by decide) (by omega) (by omega) (Nat.le_of_ble_eq_true rfl) (fun S9 hU => ?_)
      have e1 := (hU.2 _ (ne_ci s3h h3.1 (by decide)) (ne_ci s3h h3.2.1 (by decide)) (ne_ci s3h h3.2.2.1 (by decide))).trans s3h
      refine J_aload_n (pc1 := 77) rfl (i := 0) rfl dX3_keepState_76 rfl ?_
      refine J_dup (pc1 := 78) rfl dX3_keepState_77 rfl ?_
      refine J_get (pc1 := 81) (j := 1) inUX3 (ci := 3) rfl (by decide) lf_X3_17 dX3_keepState_78 rfl e1 rfl ?_
      refine J_iconst (pc1 := 82) dX3_keepState_81 rfl ?_
      refine J_iadd (pc1 := 83) dX3_keepState_82 rfl ?_
      refine J_put (pc1 := 86) (ty := .int) (j := 1) (fs1 := [.ref ha, .int (iI ((n : Int) + 1))]) inUX3 (ci := 3) rfl (by decide) tyX3 tyX3_ok nmX3 rfl (by decide +kernel) lf_X3_17 dX3_keepState_83 rfl e1 rfl (by rfl) (Nat.le_of_ble_eq_true rfl) rfl ?_
      exact J_vret rfl dX3_keepState_86 (by omega) (by omega) (⟨rfl, hP _ (KKS_b H A hnm hn6 H2 sq sz so hG2 fr2 hU)⟩)
theorem keep_t {P : pS → Prop} {S : pS} {h ha n m : Nat} {G Z O : Nat → Nat} {F : Nat → Int → Int} (H : HisOK S h ha n m G) (A : FAM S (3 + m) G Z O F) (hn6 : n < 6) (hP : ∀ T9, KKS S h ha n m G Z O F T9 → P T9) : Jd yX3_keepState cX3_keepState 2 none 3 3 20 (kNS P) 0 0 S 16 [some (.ref h), some (.ref (G 0))] [] := by
  rcases Nat.lt_or_ge n m with q | q
  · exact keep_a H A hn6 q hP
  · exact keep_b H A hn6 (by have := H.2.2.1; omega) hP
set_option maxHeartbeats 1000000 in
set_option maxRecDepth 20000 in
/-- History.keepState -/
theorem c_X3_keepState {S : pS} {h ha n m : Nat} {G Z O : Nat → Nat} {F : Nat → Int → Int} (H : HisOK S h ha n m G) (A : FAM S (3 + m) G Z O F) : Ct yX3_keepState cX3_keepState 2 none 3 3 20 [.ref h, .ref (G 0)] S (kNS (KKS S h ha n m G Z O F)) := by
  obtain ⟨H1, ⟨st, H2, H3, H4⟩, H5, H6⟩ := id H
  refine Ct.ofJ (by decide +kernel) (Nat.le_of_ble_eq_true rfl) ?_
  refine J_L (L1 := [some (.ref h), some (.ref (G 0))]) rfl ?_
  refine J_aload_n (pc1 := 1) rfl (i := 0) rfl dX3_keepState_0 rfl ?_
  refine J_get (pc1 := 4) (j := 1) inUX3 (ci := 3) rfl (by decide) lf_X3_17 dX3_keepState_1 rfl H1 rfl ?_
  refine J_aload_n (pc1 := 5) rfl (i := 0) rfl dX3_keepState_4 rfl ?_
  refine J_get (pc1 := 8) (j := 0) inUX3 (ci := 3) rfl (by decide) lf_X3_11 dX3_keepState_5 rfl H1 rfl ?_
  refine J_alenG (pc1 := 9) dX3_keepState_8 rfl H2 ?_
  refine J_icmp_lt (pc1 := 12) (tgt := 16) (by omega) (by omega) (by decide) (by decide) dX3_keepState_9 rfl rfl (fun hc1 => ?_) (fun hc1 => ?_)
  · exact keep_t H A (by omega) (fun _ h9 => h9)
  · refine J_aload_n (pc1 := 13) rfl (i := 0) rfl dX3_keepState_12 rfl ?_
    obtain rfl : n = 6 := by omega
    obtain rfl : m = 6 := by omega
    refine J_callVNs (pc1 := 16) (As := []) gv_X3_21 yv_X3_dropOldest rfl (c_X3_dropOldest H A) dX3_keepState_13 rfl H1 rfl rfl (by omega) (by decide) (by omega) (by omega) (Nat.le_of_ble_eq_true rfl) (fun T hD => ?_)
    have A2 : FAM T (3 + 6) (fun i => G (rtF i)) (fun i => Z (rtF i)) (fun i => O (rtF i)) (fun i => F (rtF i)) := FAM_perm (FAM_fr A (fun a ci fs a1 a2 => hD.2.2 a (ne_ci a1 H1 (by omega)) (ne_OQ a1 H2))) rtF rtF_b rtF_i
    obtain ⟨D1, ⟨st2, D2, D3⟩, D4⟩ := id hD
    have H9 : HisOK T h ha 5 6 (fun i => G (rtF i)) := ⟨D1, ⟨st2, D2, fun i hi => D3 i hi, fun i i1 i2 => absurd i1 (by omega)⟩, by omega, by omega⟩
    exact keep_t (n := 5) (m := 6) (G := fun i => G (rtF i)) H9 A2 (by omega) (fun T9 h9 => KKS_c hD h9)
/-- the family behind takeBack: the game is the last state -/
def KTB (S : pS) (h ha n m : Nat) (G Z O : Nat → Nat) (F : Nat → Int → Int) : pS → Prop := fun T => HisOK T h ha (n - 1) m G ∧ FAM T (3 + m) G Z O (upN F 0 (F (3 + (n - 1)))) ∧ ∀ a, a ≠ h → a ≠ G 0 → a ≠ Z 0 → a ≠ O 0 → T a = S a
theorem KTB_mk {S S9 : pS} {h ha n m : Nat} {G Z O : Nat → Nat} {F : Nat → Int → Int} (H : HisOK S h ha n m G) (A : FAM S (3 + m) G Z O F) (hn : 0 < n) (A1 : FAM (pu S h (oO 3 [.ref ha, .int (iI ((n - 1 : Nat) : Int))])) (3 + m) G Z O F) (hU : UG (pu S h (oO 3 [.ref ha, .int (iI ((n - 1 : Nat) : Int))])) (G 0) (Z 0) (O 0) (F (3 + (n - 1))) S9) : KTB S h ha n m G Z O F S9 := by
  obtain ⟨H1, ⟨st, H2, H3, H4⟩, H5, H6⟩ := H
  obtain ⟨b1, b2, b3, b4⟩ := A.1 0 (by omega)
  have f1 := pu_self S h (oO 3 [.ref ha, .int (iI ((n - 1 : Nat) : Int))])
  have f2 := (pu_ne S (oO 3 [.ref ha, .int (iI ((n - 1 : Nat) : Int))]) (ne_QO H2 H1)).trans H2
  obtain ⟨c1, c2, c3, c4⟩ := A1.1 0 (by omega)
  refine ⟨⟨(hU.2 _ (ne_ci f1 c1 (by decide)) (ne_ci f1 c2 (by decide)) (ne_ci f1 c3 (by decide))).trans f1, ⟨st, (hU.2 _ (ne_QO f2 c1) (ne_QO f2 c2) (ne_QO f2 c3)).trans f2, H3, H4⟩, by omega, H6⟩, FAM_set A1 (by omega) hU, fun a a1 a2 a3 a4 => (hU.2 a a2 a3 a4).trans (pu_ne _ _ a1)⟩
set_option maxHeartbeats 1000000 in
set_option maxRecDepth 20000 in
/-- History.takeBack -/
theorem c_X3_takeBack {S : pS} {h ha n m : Nat} {G Z O : Nat → Nat} {F : Nat → Int → Int} (H : HisOK S h ha n m G) (A : FAM S (3 + m) G Z O F) (hn : 0 < n) : Ct yX3_takeBack cX3_takeBack 3 none 2 0 0 [.ref h, .ref (G 0)] S (kNS (KTB S h ha n m G Z O F)) := by
  obtain ⟨H1, ⟨st, H2, H3, H4⟩, H5, H6⟩ := id H
  refine Ct.ofJ (by decide +kernel) (Nat.le_of_ble_eq_true rfl) ?_
  refine J_L (L1 := [some (.ref h), some (.ref (G 0)), none]) rfl ?_
  refine J_aload_n (pc1 := 1) rfl (i := 0) rfl dX3_takeBack_0 rfl ?_
  refine J_get (pc1 := 4) (j := 1) inUX3 (ci := 3) rfl (by decide) lf_X3_17 dX3_takeBack_1 rfl H1 rfl ?_
  refine J_if_le (pc1 := 7) (tgt := 48) (by omega) (by omega) dX3_takeBack_4 rfl rfl (fun hc1 => ?_) (fun hc1 => ?_)
  · exact absurd hc1 (by omega)
  · refine J_aload_n (pc1 := 8) rfl (i := 0) rfl dX3_takeBack_7 rfl ?_
    refine J_get (pc1 := 11) (j := 1) inUX3 (ci := 3) rfl (by decide) lf_X3_17 dX3_takeBack_8 rfl H1 rfl ?_
    refine J_aload_n (pc1 := 12) rfl (i := 0) rfl dX3_takeBack_11 rfl ?_
    refine J_get (pc1 := 15) (j := 0) inUX3 (ci := 3) rfl (by decide) lf_X3_11 dX3_takeBack_12 rfl H1 rfl ?_
    refine J_alenG (pc1 := 16) dX3_takeBack_15 rfl H2 ?_
    refine J_icmp_gt (pc1 := 19) (tgt := 48) (by omega) (by omega) (by decide) (by decide) dX3_takeBack_16 rfl rfl (fun hc2 => ?_) (fun hc2 => ?_)
    · exact absurd hc2 (by omega)
    · refine J_aload_n (pc1 := 20) rfl (i := 0) rfl dX3_takeBack_19 rfl ?_
      refine J_dup (pc1 := 21) rfl dX3_takeBack_20 rfl ?_
      refine J_get (pc1 := 24) (j := 1) inUX3 (ci := 3) rfl (by decide) lf_X3_17 dX3_takeBack_21 rfl H1 rfl ?_
      refine J_iconst (pc1 := 25) dX3_takeBack_24 rfl ?_
      refine J_isub (pc1 := 26) dX3_takeBack_25 rfl ?_
      rw [show (n : Int) - 1 = ((n - 1 : Nat) : Int) by omega]
      refine J_put (pc1 := 29) (ty := .int) (j := 1) (fs1 := [.ref ha, .int (iI ((n - 1 : Nat) : Int))]) inUX3 (ci := 3) rfl (by decide) tyX3 tyX3_ok nmX3 rfl (by decide +kernel) lf_X3_17 dX3_takeBack_26 rfl H1 rfl (by rfl) (Nat.le_of_ble_eq_true rfl) rfl ?_
      refine J_aload_n (pc1 := 30) rfl (i := 0) rfl dX3_takeBack_29 rfl ?_
      refine J_get (pc1 := 33) (j := 0) inUX3 (ci := 3) rfl (by decide) lf_X3_11 dX3_takeBack_30 rfl (pu_self _ _ _) rfl ?_
      refine J_aload_n (pc1 := 34) rfl (i := 0) rfl dX3_takeBack_33 rfl ?_
      refine J_get (pc1 := 37) (j := 1) inUX3 (ci := 3) rfl (by decide) lf_X3_17 dX3_takeBack_34 rfl (pu_self _ _ _) rfl ?_
      refine J_aaldG (pc1 := 38) dX3_takeBack_37 rfl ((pu_ne _ _ (ne_QO H2 H1)).trans H2) (by omega) (by omega) (by omega) ?_
      refine J_st (st1 := [.ref (G (3 + (n - 1)))]) (by rw [show st ((n - 1 : Nat) : Int) = some (G (3 + (n - 1))) from H3 (n - 1) (by omega)]; rfl) ?_
      refine J_astore_n (pc1 := 39) (L1 := [some (.ref h), some (.ref (G 0)), some (.ref (G (3 + (n - 1))))]) rfl (i := 2) dX3_takeBack_38 rfl (by decide) rfl rfl ?_
      refine J_aload_n (pc1 := 40) rfl (i := 2) rfl dX3_takeBack_39 rfl ?_
      refine J_ifnull (pc1 := 43) dX3_takeBack_40 rfl ?_
      refine J_aload_n (pc1 := 44) rfl (i := 1) rfl dX3_takeBack_43 rfl ?_
      refine J_aload_n (pc1 := 45) rfl (i := 2) rfl dX3_takeBack_44 rfl ?_
      have A1 := FAM_fr (T := pu S h (oO 3 [.ref ha, .int (iI ((n - 1 : Nat) : Int))])) A (fun a ci fs a1 a2 => pu_ne _ _ (ne_ci a1 H1 (by omega)))
      refine J_callVNs (pc1 := 48) (As := [.ref (G (3 + (n - 1)))]) gv_X3_25 yv_X2_copyFrom rfl (cpG A1 (i := 0) (j := 3 + (n - 1)) (by omega) (by omega) (by omega)) dX3_takeBack_45 rfl (A1.1 0 (by omega)).1 rfl rfl (by omega) (by decide) (by omega) (by omega) (Nat.le_of_ble_eq_true rfl) (fun S9 hU => ?_)
      exact J_vret rfl dX3_takeBack_48 (by omega) (by omega) (⟨rfl, KTB_mk H A hn A1 hU⟩)
set_option maxHeartbeats 400000 in
set_option maxRecDepth 20000 in
theorem c_X7_init {S : pS} {t : Nat} (ht : S t = some (oO 7 [.null, .int (iI 0)])) : Ct yX7_init cX7_init 1 none 3 3 20 [.ref t] S (kNS (fun T => ∃ g z o, T t = some (oO 7 [.ref g, .int (iI 0)]) ∧ IsG T g z o zeF ∧ S g = none ∧ S z = none ∧ S o = none ∧ ∀ a, S a ≠ none → a ≠ t → T a = S a)) := by
  refine Ct.ofJ (by decide +kernel) (Nat.le_of_ble_eq_true rfl) ?_
  refine J_L (L1 := [some (.ref t)]) rfl ?_
  refine J_aload_n (pc1 := 1) rfl (i := 0) rfl dX7_init_0 rfl ?_
  refine J_objInit (pc1 := 4) lm_X7_1 li_init_Object lc_init_Object dX7_init_1 rfl (by omega) (by decide) ?_
  refine J_aload_n (pc1 := 5) rfl (i := 0) rfl dX7_init_4 rfl ?_
  refine J_new (pc1 := 8) (fs := [.int (iI 0), .int (iI 0), .int (iI 0), .int (iI 0), .int (iI 0), .int (iI 0), .int (iI 0), .int (iI 0), .null, .null]) inUX2 (ci := 2) rfl tyX2 tyX2_ok ll_X7_7 lt_X2 ln_X2 df_X2 dX7_init_5 rfl (by omega) (by omega) (fun q1 n1 => ?_)
  have e_t_q1 : t ≠ q1 := ne_N ht n1
  refine J_dup (pc1 := 9) rfl dX7_init_8 rfl ?_
  refine J_callIN_Ns (pc1 := 12) (As := []) (good_C lc_X2_init) yv_X2_init ln_X2 (host := "BorrowedHours") (List.mem_of_getElem? (i := 4) rfl) li_X2_init (c_X2_init (pu_self _ _ _)) dX7_init_9 rfl rfl rfl (by omega) (by decide) (by omega) (by omega) (Nat.le_of_ble_eq_true rfl) (fun S2 hS2 => ?_)
  obtain ⟨z, o, hG2, z1, z2, fr9⟩ := hS2
  have t2 := (fr9 t (by rw [((pu_ne _ _ e_t_q1).trans ht)]; exact fun z => by cases z) e_t_q1).trans ((pu_ne _ _ e_t_q1).trans ht)
  refine J_putF (pc1 := 15) (ty := (.object "BorrowedHours$Game")) (j := 0) (fs1 := [.ref q1, .int (iI 0)]) inUX7 (ci := 7) rfl (by decide) tyX7 tyX7_ok nmX7 rfl rfl rfl (by decide +kernel) lf_X7_10 dX7_init_12 rfl t2 rfl (by rfl) (Nat.le_of_ble_eq_true rfl) rfl ?_
  exact J_vret rfl dX7_init_15 (by omega) (by omega) (⟨rfl, q1, z, o, pu_self _ _ _, ⟨(pu_ne _ _ (ne_ci hG2.1 t2 (by decide))).trans hG2.1, (pu_ne _ _ (ne_ci hG2.2.1 t2 (by decide))).trans hG2.2.1, (pu_ne _ _ (ne_ci hG2.2.2.1 t2 (by decide))).trans hG2.2.2.1, hG2.2.2.2⟩, n1, pu_none2 z1, pu_none2 z2, fun a a1 a2 => (pu_ne _ _ a2).trans ((fr9 a (by rw [pu_ne _ _ (ne_N' a1 n1)]; exact a1) (ne_N' a1 n1)).trans (pu_ne _ _ (ne_N' a1 n1)))⟩)
