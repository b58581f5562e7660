/-! 30.mlook: what the reference sees -/
theorem tT_cg {E ti ps a b c d a' b' c' d' : Int} (h : ∀ k, fc E ti ps k a b c d ↔ fc E ti ps k a' b' c' d') : tT E ti ps a b c d = tT E ti ps a' b' c' d' := by
  unfold tT
  simp only [bC_c (h _)]
theorem WN_t {f : Int → Int} (ok : okF f) {p b a : Int} (hp : p = 0 ∨ p = 1) (k : Nat) : WN (f 0) (f 1) (f 2) (f 3) k p (f 4) (f 7) (f 8) (f 5) b a ↔ fc (f 0) (f 3) (f 2) k (twF f p + (if tkF f b a = p then -1 else 1)) (moF f p + (if tkF f b a = p then -prF f b a else gaE (f 2) (prF f b a))) (moF f (1 - p) + (if tkF f b a = p then gaE (f 2) (prF f b a) else -prF f b a)) (bZ (¬ p = f 5)) := by
  have e1 : cdO (f 1) p (f 8) (f 7) = moF f (1 - p) := by
    unfold cdO moF hoF
    rcases hp with rfl | rfl <;> rfl
  have e2 : cdO (f 1) p (f 7) (f 8) = moF f p := rfl
  have e3 : cdT (f 0) p (f 4) = twF f p := rfl
  have h5 := ok.2.2.2.2.2.1
  unfold WN tkP lsP
  rw [e1, e2, e3]
  by_cases hf : fst (f 3) b a
  · have ht : tkF f b a = f 5 := if_pos hf
    have hpr : prF f b a = b := if_pos ht
    rw [ht, hpr]
    by_cases hq : p = f 5
    · have hz : bZ (¬ p = f 5) = 0 := (bZ_f (fun z => z hq)).symm
      rw [hz, if_pos hq]
      simp only [if_pos hq.symm]
      exact ⟨fun z => (fc_cg (by omega) (by omega) rfl rfl).mp (z.1 hf), fun z => ⟨fun _ => (fc_cg (by omega) (by omega) rfl rfl).mpr z, fun q => absurd hf q⟩⟩
    · have hz : bZ (¬ p = f 5) = 1 := (bZ_t hq).symm
      have hq2 : ¬ f 5 = p := fun z => hq z.symm
      rw [hz, if_neg hq]
      simp only [if_neg hq2]
      exact ⟨fun z => (fc_cg rfl rfl (by omega) rfl).mp (z.1 hf), fun z => ⟨fun _ => (fc_cg rfl rfl (by omega) rfl).mpr z, fun q => absurd hf q⟩⟩
  · have ht : tkF f b a = 1 - f 5 := if_neg hf
    have hpr : prF f b a = a := if_neg (by omega)
    rw [ht, hpr]
    by_cases hq : p = f 5
    · have hz : bZ (¬ p = f 5) = 0 := (bZ_f (fun z => z hq)).symm
      have hq2 : ¬ 1 - f 5 = p := by omega
      rw [hz, if_pos hq]
      simp only [if_neg hq2]
      exact ⟨fun z => (fc_cg rfl rfl (by omega) rfl).mp (z.2 hf), fun z => ⟨fun q => absurd q hf, fun _ => (fc_cg rfl rfl (by omega) rfl).mpr z⟩⟩
    · have hz : bZ (¬ p = f 5) = 1 := (bZ_t hq).symm
      have hq2 : 1 - f 5 = p := by omega
      rw [hz, if_neg hq]
      simp only [if_pos hq2]
      exact ⟨fun z => (fc_cg (by omega) (by omega) rfl rfl).mp (z.2 hf), fun z => ⟨fun q => absurd q hf, fun _ => (fc_cg (by omega) (by omega) rfl rfl).mpr z⟩⟩
theorem h4_n {f : Int → Int} (hw : winF f = -1006) : -f 0 < f 4 ∧ f 4 < f 0 := by
  have hw : winE (f 0) (f 4) = -1006 := hw
  unfold winE at hw
  (repeat' split at hw) <;> omega
theorem vC_f {f : Int → Int} (ok : okF f) {p : Int} (hp : p = 0 ∨ p = 1) : vC (f 0) (f 1) (f 2) (f 7 + f 8) p (f 4) (f 7) (f 8) (f 5) := by
  obtain ⟨o0, o1, o2, o3, o4, o5, o7, o9, o10, o12, o13, -⟩ := ok
  exact ⟨hp, o5, o4, o7.1, o7.2, fun _ => rfl, o13⟩
theorem s_ok {f : Int → Int} (ok : okF f) : -100 ≤ f 7 + f 8 ∧ f 7 + f 8 ≤ 20 := by
  obtain ⟨o0, o1, o2, o3, o4, o5, o7, o9, o10, o12, o13, -⟩ := ok
  omega
/-- a round's time, as the table tells it -/
theorem tb_v {f ti : Int → Int} (ok : okF f) (hw : winF f = -1006) (hT : TOK (f 0) (f 1) (f 2) (f 3) (f 7 + f 8) ti) {p b a : Int} (hp : p = 0 ∨ p = 1) (b0 : 0 ≤ b) (b1 : b ≤ moF f (f 5)) (a0 : 0 ≤ a) (a1 : a ≤ moF f (1 - f 5)) :
    (0 ≤ bhF (f 3) (f 2) p (f 4) (f 7) (f 8) (f 5) b a ∧ bhF (f 3) (f 2) p (f 4) (f 7) (f 8) (f 5) b a < 20412) ∧ (0 ≤ ti (bhF (f 3) (f 2) p (f 4) (f 7) (f 8) (f 5) b a) ∧ ti (bhF (f 3) (f 2) p (f 4) (f 7) (f 8) (f 5) b a) ≤ 99) ∧ (if 8 ≤ ti (bhF (f 3) (f 2) p (f 4) (f 7) (f 8) (f 5) b a) then 99 else ti (bhF (f 3) (f 2) p (f 4) (f 7) (f 8) (f 5) b a)) = rvT (tbh f p b a) := by
  have R := ok_R ok (s_ok ok)
  have e2 : cdO (f 1) (f 5) (f 7) (f 8) = moF f (f 5) := rfl
  have e1 : cdO (f 1) (f 5) (f 8) (f 7) = moF f (1 - f 5) := by
    have h5 := ok.2.2.2.2.2.1
    unfold cdO moF hoF
    rcases h5 with q | q <;> rw [q] <;> rfl
  obtain ⟨h', one', ot', e, v', c⟩ := bh_c R (vC_f ok hp) (h4_n hw) b0 (by rw [e2]; exact b1) a0 (by rw [e1]; exact a1)
  have t := hT p h' one' ot' (1 - f 5) v'.1 v'.2.1 v'.2.2.1 v'.2.2.2.1 v'.2.2.2.2.1 v'.2.2.2.2.2.1 v'.2.2.2.2.2.2
  have tb := tT_b (f 0) (f 3) (f 2) (cdT (f 0) p h') (cdO (f 1) p one' ot') (cdO (f 1) p ot' one') (cdB p (1 - f 5))
  have t2 : tT (f 0) (f 3) (f 2) (cdT (f 0) p h') (cdO (f 1) p one' ot') (cdO (f 1) p ot' one') (cdB p (1 - f 5)) = _ := tT_cg (fun k => (c k).trans (WN_t ok hp k))
  have t3 : ti (atF p h' one' ot' (1 - f 5)) = rvT (tT (f 0) (f 3) (f 2) (cdT (f 0) p h') (cdO (f 1) p one' ot') (cdO (f 1) p ot' one') (cdB p (1 - f 5))) := t
  have t4 : tbh f p b a = capT (tT (f 0) (f 3) (f 2) (cdT (f 0) p h') (cdO (f 1) p one' ot') (cdO (f 1) p ot' one') (cdB p (1 - f 5))) := by rw [t2]; rfl
  rw [e, t3, t4]
  generalize tT (f 0) (f 3) (f 2) (cdT (f 0) p h') (cdO (f 1) p one' ot') (cdO (f 1) p ot' one') (cdB p (1 - f 5)) = z at tb ⊢
  refine ⟨vC_r R v', ?_, ?_⟩
  · unfold rvT
    split <;> omega
  · unfold rvT capT
    (repeat' split) <;> omega
/-- the time of now, with hours of a player's own -/
theorem tw_v {f ti : Int → Int} {one ot : Int} (ok : okF f) {p : Int} (hp : p = 0 ∨ p = 1) (h1 : -f 1 ≤ one) (h2 : -f 1 ≤ ot) (h3 : f 2 = 1 → one ≤ 6 ∧ ot ≤ 6) (hT : TOK (f 0) (f 1) (f 2) (f 3) (one + ot) ti) (hs : one + ot ≤ 20) {m : Int} (hm : m = (if p = 0 then one else ot) + f 1) (ho : (if p = 0 then ot else one) + f 1 = moF f (1 - p)) :
    (0 ≤ atF p (f 4) one ot (f 5) ∧ atF p (f 4) one ot (f 5) < 20412) ∧ ti (atF p (f 4) one ot (f 5)) = rvT (twT f p m) := by
  obtain ⟨o0, o1, o2, o3, o4, o5, o7, o9, o10, o12, o13, -⟩ := id ok
  have R := ok_R ok (show -100 ≤ one + ot ∧ one + ot ≤ 20 by omega)
  have v : vC (f 0) (f 1) (f 2) (one + ot) p (f 4) one ot (f 5) := ⟨hp, o5, o4, h1, h2, fun _ => rfl, h3⟩
  refine ⟨vC_r R v, ?_⟩
  have t := hT p (f 4) one ot (f 5) v.1 v.2.1 v.2.2.1 h1 h2 (fun _ => rfl) h3
  have e : (if f 5 = p then (1 : Int) else 0) = bZ (p = f 5) := by
    by_cases q : p = f 5
    · rw [if_pos q.symm]
      exact bZ_t q
    · rw [if_neg (fun z => q z.symm)]
      exact bZ_f q
  rw [t, ← hm, ho, e]
  rfl
set_option maxHeartbeats 400000 in
set_option maxRecDepth 20000 in
theorem c_X10_timeBehind {S : pS} {B : Nat → Nat} {f hs sl sv ti tx to : Int → Int} {n ik kr ks L sp nu rd : Int} (W : MW S B f hs sl sv ti tx to n ik kr ks L sp nu rd) (okf : okF f) (hw : winF f = -1006) (hT : TOK (f 0) (f 1) (f 2) (f 3) (f 7 + f 8) ti) {p b a : Int} (hp : p = 0 ∨ p = 1) (b0 : 0 ≤ b) (b1 : b ≤ moF f (f 5)) (a0 : 0 ≤ a) (a1 : a ≤ moF f (1 - f 5)) : Ct yX10_timeBehind cX10_timeBehind 5 (Option.some FieldType.int) 2 0 0 [.ref (B 0), .int (iI p), .int (iI b), .int (iI a)] S (kI (rvT (tbh f p b a)) S) := by
  obtain ⟨z1, z2, z3⟩ := tb_v okf hw hT hp b0 b1 a0 a1
  have q3 := moF_b (p := f 5) okf
  have q4 := moF_b (p := 1 - f 5) okf
  obtain ⟨o0, o1, o2, o3, o4, o5, o7, o9, o10, o12, o13, -⟩ := id okf
  refine Ct.ofJ (by decide +kernel) (Nat.le_of_ble_eq_true rfl) ?_
  refine J_L (L1 := [some (.ref (B 0)), some (.int (iI p)), some (.int (iI b)), some (.int (iI a)), none]) rfl ?_
  refine J_aload_n (pc1 := 1) rfl (i := 0) rfl dX10_timeBehind_0 rfl ?_
  refine J_get (pc1 := 4) (j := 5) inUX10 (ci := 10) rfl (by decide) lf_X10_22 dX10_timeBehind_1 rfl W.1 rfl ?_
  refine J_aload_n (pc1 := 5) rfl (i := 0) rfl dX10_timeBehind_4 rfl ?_
  refine J_iload_n (pc1 := 6) rfl (i := 1) rfl dX10_timeBehind_5 rfl ?_
  refine J_aload_n (pc1 := 7) rfl (i := 0) rfl dX10_timeBehind_6 rfl ?_
  refine J_get (pc1 := 10) (j := 0) inUX10 (ci := 10) rfl (by decide) lf_X10_7 dX10_timeBehind_7 rfl W.1 rfl ?_
  refine J_iconst (pc1 := 11) dX10_timeBehind_10 rfl ?_
  refine J_iald (pc1 := 12) dX10_timeBehind_11 rfl W.2.1 (by omega) (by omega) (by omega) ?_
  refine J_aload_n (pc1 := 13) rfl (i := 0) rfl dX10_timeBehind_12 rfl ?_
  refine J_get (pc1 := 16) (j := 0) inUX10 (ci := 10) rfl (by decide) lf_X10_7 dX10_timeBehind_13 rfl W.1 rfl ?_
  refine J_bipush (pc1 := 18) (by decide) dX10_timeBehind_16 rfl ?_
  refine J_iald (pc1 := 19) dX10_timeBehind_18 rfl W.2.1 (by omega) (by omega) (by omega) ?_
  refine J_aload_n (pc1 := 20) rfl (i := 0) rfl dX10_timeBehind_19 rfl ?_
  refine J_get (pc1 := 23) (j := 0) inUX10 (ci := 10) rfl (by decide) lf_X10_7 dX10_timeBehind_20 rfl W.1 rfl ?_
  refine J_bipush (pc1 := 25) (by decide) dX10_timeBehind_23 rfl ?_
  refine J_iald (pc1 := 26) dX10_timeBehind_25 rfl W.2.1 (by omega) (by omega) (by omega) ?_
  refine J_aload_n (pc1 := 27) rfl (i := 0) rfl dX10_timeBehind_26 rfl ?_
  refine J_get (pc1 := 30) (j := 0) inUX10 (ci := 10) rfl (by decide) lf_X10_7 dX10_timeBehind_27 rfl W.1 rfl ?_
  refine J_iconst (pc1 := 31) dX10_timeBehind_30 rfl ?_
  refine J_iald (pc1 := 32) dX10_timeBehind_31 rfl W.2.1 (by omega) (by omega) (by omega) ?_
  refine J_iload_n (pc1 := 33) rfl (i := 2) rfl dX10_timeBehind_32 rfl ?_
  refine J_iload_n (pc1 := 34) rfl (i := 3) rfl dX10_timeBehind_33 rfl ?_
  refine J_callVI (pc1 := 37) (As := [.int (iI p), .int (iI (f 4)), .int (iI (f 7)), .int (iI (f 8)), .int (iI (f 5)), .int (iI b), .int (iI a)]) gv_X10_57 yv_X10_behind rfl (c_X10_behind ⟨W.1, W.2.1, W.2.2.1, W.2.2.2.1, W.2.2.2.2.1, W.2.2.2.2.2.1, W.2.2.2.2.2.2.1, W.2.2.2.2.2.2.2⟩ (fi := f 5) (b := b) (a := a) (by omega) (by omega) (by omega) (by omega) (by omega)) dX10_timeBehind_34 rfl W.1 rfl rfl (by omega) (by decide) (by omega) (by omega) (Nat.le_of_ble_eq_true rfl) ?_
  refine J_iald (pc1 := 38) dX10_timeBehind_37 rfl W.2.2.2.2.2.1 (by omega) (by omega) (by omega) ?_
  refine J_istore (pc1 := 40) (L1 := [some (.ref (B 0)), some (.int (iI p)), some (.int (iI b)), some (.int (iI a)), some (.int (iI (ti (bhF (f 3) (f 2) p (f 4) (f 7) (f 8) (f 5) b a))))]) dX10_timeBehind_38 rfl (by decide) rfl rfl ?_
  refine J_iload (pc1 := 42) rfl dX10_timeBehind_40 rfl ?_
  refine J_bipush (pc1 := 44) (by decide) dX10_timeBehind_42 rfl ?_
  refine J_icmp_lt (pc1 := 47) (tgt := 52) (by omega) (by omega) (by decide) (by decide) dX10_timeBehind_44 rfl rfl (fun hc1 => ?_) (fun hc1 => ?_)
  · refine J_iload (pc1 := 54) rfl dX10_timeBehind_52 rfl ?_
    exact J_iret rfl rfl dX10_timeBehind_54 (Nat.le_refl _) (Nat.le_refl _) (kI_mk (by rw [← z3]; first | (rw [if_pos (by omega)]) | (rw [if_neg (by omega)])))
  · refine J_bipush (pc1 := 49) (by decide) dX10_timeBehind_47 rfl ?_
    refine J_goto (tgt := 54) dX10_timeBehind_49 rfl ?_
    exact J_iret rfl rfl dX10_timeBehind_54 (Nat.le_refl _) (Nat.le_refl _) (kI_mk (by rw [← z3]; first | (rw [if_pos (by omega)]) | (rw [if_neg (by omega)])))
