/-! 20.run: leastHours, the pad's calls, run -/
theorem apF_b {tx : Int → Int} (h : ∀ i : Int, 0 ≤ tx i ∧ tx i ≤ 255) (L n x j : Nat) : ∀ i : Int, 0 ≤ apF tx L n x j i ∧ apF tx L n x j i ≤ 255 := fun i => by
  unfold apF
  split
  · omega
  · exact h i
/-- a number stands from i to j -/
def Bd (tx : Int → Int) (i j : Nat) (v : Int) : Prop := (j = i + 1 ∧ (48 ≤ tx i ∧ tx i ≤ 57) ∧ v = tx i - 48) ∨ (j = i + 2 ∧ tx i = 49 ∧ (48 ≤ tx (i + 1 : Nat) ∧ tx (i + 1 : Nat) ≤ 52) ∧ v = 10 + tx (i + 1 : Nat) - 48)
/-- rounds stand from i to the end -/
def Rd (tx : Int → Int) (L : Nat) : Nat → List (Int × Int) → Prop
  | _, [] => False
  | i, r :: R => ∃ (j k : Nat), Bd tx i j r.1 ∧ j < L ∧ tx j = 58 ∧ Bd tx (j + 1) k r.2 ∧ k ≤ L ∧ ((R = [] ∧ k = L) ∨ (k < L ∧ tx k = 44 ∧ Rd tx L (k + 1) R))
def alD (f : Int → Int) (b a : Int) : Prop := winF f = -1006 ∧ b ≤ moF f (f 5) ∧ a ≤ moF f (1 - f 5)
noncomputable def plN (f : Int → Int) : List (Int × Int) → Int
  | [] => 0
  | r :: R => @ite _ (alD f r.1 r.2) (Classical.propDecidable _) (1 + plN (plF f r.1 r.2) R) 0
noncomputable def plL (f : Int → Int) : List (Int × Int) → (Int → Int)
  | [] => f
  | r :: R => @ite _ (alD f r.1 r.2) (Classical.propDecidable _) (plL (plF f r.1 r.2) R) f
theorem Bd_b {tx : Int → Int} {i j : Nat} {v : Int} (h : Bd tx i j v) : 0 ≤ v ∧ v ≤ 14 := by
  rcases h with ⟨_, h1, h2⟩ | ⟨_, _, h1, h2⟩ <;> omega
/-- a round that is possible leads to a row that can come about -/
theorem okF_pl {f : Int → Int} (ok : okF f) {b a : Int} (hb : 0 ≤ b) (ha : 0 ≤ a) (hal : alD f b a) : okF (plF f b a) := by
  have hov := win_o hal.1
  have hpb := pr_b ok ⟨hb, hal.2.1⟩ ⟨ha, hal.2.2⟩
  have hg := gaE_b (p := f 2) hpb.1
  have h18 := ok.2.2.2.2.2.2.2.2.2.2.2
  obtain ⟨o0, o1, o2, o3, o4, o5, o7, o9, o10, o12, o13, -⟩ := ok
  have g0 : f 2 = 0 → gaF f (prF f b a) = prF f b a := fun q => gaE0 q
  have g1 : f 2 = 1 → gaF f (prF f b a) = 0 := fun q => gaE1 q
  have hwn : ∀ x : Int, (if winE (f 0) x = -1006 then (0 : Int) else 1) = 0 ∨ (if winE (f 0) x = -1006 then (0 : Int) else 1) = 1 := fun x => by split <;> omega
  rcases tkF_b ⟨o0, o1, o2, o3, o4, o5, o7, o9, o10, o12, o13, h18⟩ b a with ht | ht
  · obtain ⟨p0, p1, p2, p3, p4, p5, p6, p7, p8, p9, p10, p11, p12, p13, p14, p15, p16, p17, p18⟩ := plF_at0 ht
    rw [ht] at hpb
    have hm : moF f 0 = f 7 + f 1 := rfl
    rw [hm] at hpb
    unfold okF
    rw [p0, p1, p2, p3, p4, p5, p7, p8, p9, p10, p15, p16, p18]
    refine ⟨o0, o1, o2, o3, by omega, by omega, by omega, o9, o10, by omega, fun q => ?_, by omega⟩
    have := o13 q
    have := g1 q
    omega
  · obtain ⟨p0, p1, p2, p3, p4, p5, p6, p7, p8, p9, p10, p11, p12, p13, p14, p15, p16, p17, p18⟩ := plF_at1 ht
    rw [ht] at hpb
    have hm : moF f 1 = f 8 + f 1 := rfl
    rw [hm] at hpb
    unfold okF
    rw [p0, p1, p2, p3, p4, p5, p7, p8, p9, p10, p15, p16, p18]
    refine ⟨o0, o1, o2, o3, by omega, by omega, by omega, o9, o10, by omega, fun q => ?_, by omega⟩
    have := o13 q
    have := g1 q
    omega
theorem okX_f {f f' f1 f2 : Int → Int} {b0 b1 : Int} {n : Nat} {H : Nat → Int → Int} (h : okX f f1 f2 b0 b1 n H) (h' : okF f') : okX f' f1 f2 b0 b1 n H := ⟨h', h.2⟩
set_option maxHeartbeats 1000000 in
set_option maxRecDepth 20000 in
theorem c_X9_leastHours {X : Nat → Prop} {S : pS} {A : Nat → Nat} {f f1 f2 : Int → Int} {b0 b1 : Int} {n : Nat} {H : Nat → Int → Int} {tx : Int → Int} {L : Nat} (hX : XS X S A f f1 f2 b0 b1 n H tx L) (ok : okX f f1 f2 b0 b1 n H) {p : Int} (hp : -2147483648 ≤ p ∧ p < 2147483648) (hR : RX X S) : Ct yX9_leastHours cX9_leastHours 3 (Option.some FieldType.int) 8 28 9121 [.ref (A 0), .int (iI p)] S (kIS (lhA f p) (fun T => XS X T A f f1 f2 b0 b1 n H tx L ∧ frX S T (A 6))) := by
  obtain ⟨G, Z, O, F, mm, tb, W, e0, e1, e2, eH⟩ := id hX
  have hg : IsG S (G 0) (Z 0) (O 0) f := e0 ▸ W.2.2.1.1 0 (by omega)
  obtain ⟨o0, o1, o2, o3, o4, o5, o7, o9, o10, o12, o13, o18⟩ := ok.1
  have m8 := mo_8 ok.1 p
  have q3 := moF_b (p := p) ok.1
  have q4 := moF_b (p := 1 - p) ok.1
  refine Ct.ofJ (by decide +kernel) (Nat.le_of_ble_eq_true rfl) ?_
  refine J_L (L1 := [some (.ref (A 0)), some (.int (iI p)), none]) rfl ?_
  have LP : (p = 0 ∨ p = 1) → winF f = -1006 → ∀ (r h : Nat) (T9 : pS), h + r = 7 → XS X T9 A f f1 f2 b0 b1 n H tx L → RX X T9 → frX S T9 (A 6) → lhG f p r h = lhG f p 7 0 → Jd yX9_leastHours cX9_leastHours 3 (Option.some FieldType.int) 8 28 9121 (kIS (lhA f p) (fun T => XS X T A f f1 f2 b0 b1 n H tx L ∧ frX S T (A 6))) (4 * h) (1303 * h) T9 27 [some (.ref (A 0)), some (.int (iI p)), some (.int (iI (h : Int)))] [] := by
    intro hp01 hw9 r
    have ms16 := mo_s ok.1 hp01
    induction r with
    | zero =>
      intro h T9 h1 hX9 hR9 fr9 h2
      obtain ⟨G9, Z9, O9, F9, mm9, tb9, W9, e09, e19, e29, eH9⟩ := id hX9
      have hg9 : IsG T9 (G9 0) (Z9 0) (O9 0) f := e09 ▸ W9.2.2.1.1 0 (by omega)
      have h2 : -1006 = lhG f p 7 0 := h2
      refine J_iload_n (pc1 := 28) rfl (i := 2) rfl dX9_leastHours_27 rfl ?_
      refine J_bipush (pc1 := 30) (by decide) dX9_leastHours_28 rfl ?_
      refine J_icmp_gt (pc1 := 33) (tgt := 60) (by omega) (by omega) (by decide) (by decide) dX9_leastHours_30 rfl rfl (fun hc1 => ?_) (fun hc1 => ?_)
      · refine J_sipush (pc1 := 63) (by decide) dX9_leastHours_60 rfl ?_
        exact J_iret rfl rfl dX9_leastHours_63 (by omega) (by omega) (kIS_mk (by unfold lhA; rw [if_neg (not_not_intro hp01), if_neg (not_not_intro hw9)]; exact h2) ⟨hX9, fr9⟩)
      · exact absurd hc1 (by omega)
    | succ r ih =>
      intro h T9 h1 hX9 hR9 fr9 h2
      obtain ⟨G9, Z9, O9, F9, mm9, tb9, W9, e09, e19, e29, eH9⟩ := id hX9
      have hg9 : IsG T9 (G9 0) (Z9 0) (O9 0) f := e09 ▸ W9.2.2.1.1 0 (by omega)
      have h2 : (if twT f p ((h : Int) + f 1) < 9 then (h : Int) else lhG f p r ((h : Int) + 1)) = lhG f p 7 0 := h2
      refine J_iload_n (pc1 := 28) rfl (i := 2) rfl dX9_leastHours_27 rfl ?_
      refine J_bipush (pc1 := 30) (by decide) dX9_leastHours_28 rfl ?_
      refine J_icmp_gt (pc1 := 33) (tgt := 60) (by omega) (by omega) (by decide) (by decide) dX9_leastHours_30 rfl rfl (fun hc2 => ?_) (fun hc2 => ?_)
      · exact absurd hc2 (by omega)
      · refine J_aload_n (pc1 := 34) rfl (i := 0) rfl dX9_leastHours_33 rfl ?_
        refine J_iload_n (pc1 := 35) rfl (i := 1) rfl dX9_leastHours_34 rfl ?_
        refine J_iload_n (pc1 := 36) rfl (i := 2) rfl dX9_leastHours_35 rfl ?_
        refine J_aload_n (pc1 := 37) rfl (i := 0) rfl dX9_leastHours_36 rfl ?_
        refine J_get (pc1 := 40) (j := 0) inUX9 (ci := 9) rfl (by decide) lf_X9_12 dX9_leastHours_37 rfl W9.1 rfl ?_
        refine J_get (pc1 := 43) (j := 1) inUX2 (ci := 2) rfl (by decide) lf_X9_190 dX9_leastHours_40 rfl hg9.1 rfl ?_
        refine J_iadd (pc1 := 44) dX9_leastHours_43 rfl ?_
        refine J_callVIs (pc1 := 47) (As := [.int (iI p), .int (iI ((h : Int) + (f 1)))]) gv_X9_163 yv_X9_timeWith rfl (c_X9_timeWith hX9 ok (RX_nn hR9) (p := p) (most := (h : Int) + (f 1)) hp01 (by omega) (by omega) (by omega)) dX9_leastHours_44 rfl W9.1 rfl rfl (by omega) (by decide) (by omega) (by omega) (Nat.le_of_ble_eq_true rfl) (fun T1 hT1 => ?_)
        obtain ⟨hX1, fr1⟩ := hT1
        obtain ⟨G1, Z1, O1, F1, mm1, tb1, W1, e01, e11, e21, eH1⟩ := id hX1
        have hg1 : IsG T1 (G1 0) (Z1 0) (O1 0) f := e01 ▸ W1.2.2.1.1 0 (by omega)
        have htb := twT_b f p ((h : Int) + (f 1))
        have htw : twT f p ((h : Int) + (f 1)) = tT (f 0) (f 3) (f 2) (twF f p) ((h : Int) + (f 1)) (moF f (1 - p)) (bZ (p = f 5)) := rfl
        refine J_bipush (pc1 := 49) (by decide) dX9_leastHours_47 rfl ?_
        refine J_icmp_ge (pc1 := 52) (tgt := 54) (by omega) (by omega) (by decide) (by decide) dX9_leastHours_49 rfl rfl (fun hc3 => ?_) (fun hc3 => ?_)
        · refine J_iinc (pc1 := 57) (L1 := [some (.ref (A 0)), some (.int (iI p)), some (.int (iI ((h : Int) + 1)))]) dX9_leastHours_54 rfl rfl (by decide) rfl rfl ?_
          refine J_goto (tgt := 27) dX9_leastHours_57 rfl ?_
          rw [if_neg (by omega)] at h2
          rw [show (h : Int) + 1 = ((h + 1 : Nat) : Int) by omega] at h2
          refine J_L (L1 := [some (.ref (A 0)), some (.int (iI p)), some (.int (iI ((h + 1 : Nat) : Int)))]) (by rw [show (h : Int) + 1 = ((h + 1 : Nat) : Int) by omega]) ?_
          refine J_widen (c1 := 4 * (h + 1)) (s1 := 1303 * (h + 1)) (by omega) (by omega) ?_
          exact ih (h + 1) T1 (by omega) hX1 (RX_fr hR9 hX1 fr1) (frX.tr fr9 fr1) h2
        · refine J_iload_n (pc1 := 53) rfl (i := 2) rfl dX9_leastHours_52 rfl ?_
          exact J_iret rfl rfl dX9_leastHours_53 (by omega) (by omega) (kIS_mk (by unfold lhA; rw [if_neg (not_not_intro hp01), if_neg (not_not_intro hw9), ← h2, if_pos (by omega)]) ⟨hX1, frX.tr fr9 fr1⟩)
  refine J_iload_n (pc1 := 1) rfl (i := 1) rfl dX9_leastHours_0 rfl ?_
  refine J_callSI (pc1 := 4) (As := [.int (iI p)]) gs_X9_141 yv_X9_isPlayer (c_X9_isPlayer (v := p) (by omega)) dX9_leastHours_1 rfl rfl rfl (by omega) (by decide) (by omega) (by omega) (Nat.le_of_ble_eq_true rfl) ?_
  refine J_if_ne (pc1 := 7) (tgt := 11) (bC_lo _) (bC_hi _) dX9_leastHours_4 rfl rfl (fun hc4 => ?_) (fun hc4 => ?_)
  · have hp01 : p = 0 ∨ p = 1 := bC_1 (by assumption)
    refine J_aload_n (pc1 := 12) rfl (i := 0) rfl dX9_leastHours_11 rfl ?_
    refine J_get (pc1 := 15) (j := 0) inUX9 (ci := 9) rfl (by decide) lf_X9_12 dX9_leastHours_12 rfl W.1 rfl ?_
    refine J_callVI (pc1 := 18) (As := []) gv_X9_115 yv_X2_isOver rfl (c_X2_isOver hg.1 (by omega) (by omega)) dX9_leastHours_15 rfl hg.1 rfl rfl (by omega) (by decide) (by omega) (by omega) (Nat.le_of_ble_eq_true rfl) ?_
    refine J_if_eq (pc1 := 21) (tgt := 25) (bZ_lo _) (bZ_hi _) dX9_leastHours_18 rfl rfl (fun hc5 => ?_) (fun hc5 => ?_)
    · refine J_iconst (pc1 := 26) dX9_leastHours_25 rfl ?_
      refine J_istore_n (pc1 := 27) (L1 := [some (.ref (A 0)), some (.int (iI p)), some (.int (iI 0))]) rfl (i := 2) dX9_leastHours_26 rfl (by decide) rfl rfl ?_
      have hw9 : winF f = -1006 := Decidable.not_not.mp (bZ_0 (P := winE (f 0) (f 4) ≠ -1006) (by assumption))
      refine J_widen (c1 := 4 * 0) (s1 := 1303 * 0) (by omega) (by omega) ?_
      exact LP hp01 hw9 7 0 S rfl hX hR frX.rf rfl
    · refine J_sipush (pc1 := 24) (by decide) dX9_leastHours_21 rfl ?_
      exact J_iret rfl rfl dX9_leastHours_24 (by omega) (by omega) (kIS_mk (by unfold lhA; rw [if_neg (not_not_intro hp01), if_pos (bZ_1 (P := winE (f 0) (f 4) ≠ -1006) (by assumption))]) ⟨hX, frX.rf⟩)
  · refine J_sipush (pc1 := 10) (by decide) dX9_leastHours_7 rfl ?_
    exact J_iret rfl rfl dX9_leastHours_10 (by omega) (by omega) (kIS_mk (by unfold lhA; rw [if_pos (bC_0 (by assumption))]) ⟨hX, frX.rf⟩)
set_option maxHeartbeats 1000000 in
set_option maxRecDepth 20000 in
theorem c_X9_put {X : Nat → Prop} {S : pS} {A : Nat → Nat} {f f1 f2 : Int → Int} {b0 b1 : Int} {n : Nat} {H : Nat → Int → Int} {tx : Int → Int} {L : Nat} (hX : XS X S A f f1 f2 b0 b1 n H tx L) (ok : okX f f1 f2 b0 b1 n H) {x : Nat} (hx : x < 2 ^ 64) (hX6 : X (A 6)) : Ct yX9_put cX9_put 4 (Option.some FieldType.int) 1 0 0 [.ref (A 0), .long (lN x)] S (KOR (¬ csF 8 0 x = 0 ∧ (L : Int) + csF 8 0 x ≤ 60) (if csF 8 0 x = 0 then -1002 else -1004) ((L : Int) + csF 8 0 x) S (fun T => XS X T A f f1 f2 b0 b1 n H (apF tx L (csF 8 0 x).toNat x (csF 8 0 x).toNat) (L + (csF 8 0 x).toNat) ∧ frX S T (A 6))) := by
  obtain ⟨G, Z, O, F, mm, tb, W, e0, e1, e2, eH⟩ := id hX
  have hg : IsG S (G 0) (Z 0) (O 0) f := e0 ▸ W.2.2.1.1 0 (by omega)
  obtain ⟨n9, hn9⟩ : ∃ n9 : Nat, csF 8 0 x = (n9 : Int) := ⟨(csF 8 0 x).toNat, by have := csF_b 8 0 x; omega⟩
  have hn8 := csF_b 8 0 x
  have hcs := c_X5_countSigns (S := S) hx
  rw [hn9] at hcs
  have hL := W.2.2.2.2.2.2.1.2.2.1
  refine Ct.ofJ (by decide +kernel) (Nat.le_of_ble_eq_true rfl) ?_
  refine J_L (L1 := [some (.ref (A 0)), some (.long (lN x)), none, none]) rfl ?_
  refine J_lload_n (pc1 := 1) rfl (i := 1) rfl dX9_put_0 rfl ?_
  refine J_callS2I (pc1 := 4) (As := [.long (lN x)]) (good_C lc_X5_countSigns) ln_X5 lm_X9_193 ls_X5_countSigns yv_X5_countSigns.2 hcs dX9_put_1 rfl rfl rfl (by omega) (by decide) (by omega) (by omega) (Nat.le_of_ble_eq_true rfl) ?_
  refine J_istore_n (pc1 := 5) (L1 := [some (.ref (A 0)), some (.long (lN x)), none, some (.int (iI (n9 : Int)))]) rfl (i := 3) dX9_put_4 rfl (by decide) rfl rfl ?_
  refine J_iload_n (pc1 := 6) rfl (i := 3) rfl dX9_put_5 rfl ?_
  refine J_if_ne (pc1 := 9) (tgt := 13) (by omega) (by omega) dX9_put_6 rfl rfl (fun hc1 => ?_) (fun hc1 => ?_)
  · refine J_aload_n (pc1 := 14) rfl (i := 0) rfl dX9_put_13 rfl ?_
    refine J_get (pc1 := 17) (j := 4) inUX9 (ci := 9) rfl (by decide) lf_X9_36 dX9_put_14 rfl W.1 rfl ?_
    refine J_get (pc1 := 20) (j := 1) inUX5 (ci := 5) rfl (by decide) lf_X9_178 dX9_put_17 rfl W.2.2.2.2.2.2.1.1 rfl ?_
    refine J_iload_n (pc1 := 21) rfl (i := 3) rfl dX9_put_20 rfl ?_
    refine J_iadd (pc1 := 22) dX9_put_21 rfl ?_
    refine J_bipush (pc1 := 24) (by decide) dX9_put_22 rfl ?_
    refine J_icmp_le (pc1 := 27) (tgt := 31) (by omega) (by omega) (by decide) (by decide) dX9_put_24 rfl rfl (fun hc2 => ?_) (fun hc2 => ?_)
    · refine J_aload_n (pc1 := 32) rfl (i := 0) rfl dX9_put_31 rfl ?_
      refine J_get (pc1 := 35) (j := 4) inUX9 (ci := 9) rfl (by decide) lf_X9_36 dX9_put_32 rfl W.1 rfl ?_
      refine J_lload_n (pc1 := 36) rfl (i := 1) rfl dX9_put_35 rfl ?_
      refine J_iload_n (pc1 := 37) rfl (i := 3) rfl dX9_put_36 rfl ?_
      refine J_callVN (pc1 := 40) (As := [.long (lN x), .int (iI (n9 : Int))]) gv_X9_197 yv_X5_append rfl (c_X5_append W.2.2.2.2.2.2.1 hx (n := n9) (by omega) (by omega)) dX9_put_37 rfl W.2.2.2.2.2.2.1.1 rfl rfl (by omega) (by decide) (by omega) (by omega) (Nat.le_of_ble_eq_true rfl) ?_
      have hpo : PadOK (pu (pu S (A 5) (oO 5 [.ref (A 6), .int (iI ((L + n9 : Nat) : Int))])) (A 6) (aI 60 (apF tx L n9 x n9))) (A 5) (A 6) (apF tx L n9 x n9) (L + n9) := ⟨(pu_ne _ _ (ne_OI W.2.2.2.2.2.2.1.1 W.2.2.2.2.2.2.1.2.1)).trans (pu_self _ _ _), pu_self _ _ _, by omega, apF_b W.2.2.2.2.2.2.1.2.2.2 _ _ _ _⟩
      have hwf := XW_pad W hX6 hpo (fun a a5 a6 => (pu_ne _ _ a6).trans (pu_ne _ _ a5))
      generalize hT1 : pu (pu S (A 5) (oO 5 [.ref (A 6), .int (iI ((L + n9 : Nat) : Int))])) (A 6) (aI 60 (apF tx L n9 x n9)) = T1 at hpo hwf ⊢
      refine J_aload_n (pc1 := 41) rfl (i := 0) rfl dX9_put_40 rfl ?_
      refine J_get (pc1 := 44) (j := 4) inUX9 (ci := 9) rfl (by decide) lf_X9_36 dX9_put_41 rfl hwf.1.1 rfl ?_
      refine J_get (pc1 := 47) (j := 1) inUX5 (ci := 5) rfl (by decide) lf_X9_178 dX9_put_44 rfl hpo.1 rfl ?_
      exact J_iret rfl rfl dX9_put_47 (by omega) (by omega) (KOR_1 ⟨by omega, by omega⟩ (by omega) ⟨⟨G, Z, O, F, mm, tb, by rw [show (csF 8 0 x).toNat = n9 by omega]; exact hwf.1, e0, e1, e2, eH⟩, hwf.2⟩)
    · refine J_sipush (pc1 := 30) (by decide) dX9_put_27 rfl ?_
      exact J_iret rfl rfl dX9_put_30 (by omega) (by omega) (KOR_0 (fun z => by omega) (by rw [if_neg (by omega)]))
  · refine J_sipush (pc1 := 12) (by decide) dX9_put_9 rfl ?_
    exact J_iret rfl rfl dX9_put_12 (by omega) (by omega) (KOR_0 (fun z => z.1 (by omega)) (by rw [if_pos (by omega)]))
set_option maxHeartbeats 1000000 in
set_option maxRecDepth 20000 in
theorem c_X9_wipe {X : Nat → Prop} {S : pS} {A : Nat → Nat} {f f1 f2 : Int → Int} {b0 b1 : Int} {n : Nat} {H : Nat → Int → Int} {tx : Int → Int} {L : Nat} (hX : XS X S A f f1 f2 b0 b1 n H tx L) (ok : okX f f1 f2 b0 b1 n H) (hX6 : X (A 6)) : Ct yX9_wipe cX9_wipe 2 (Option.some FieldType.int) 1 0 0 [.ref (A 0)] S (kIS (L : Int) (fun T => XS X T A f f1 f2 b0 b1 n H tx 0 ∧ frX S T (A 6))) := by
  obtain ⟨G, Z, O, F, mm, tb, W, e0, e1, e2, eH⟩ := id hX
  have hg : IsG S (G 0) (Z 0) (O 0) f := e0 ▸ W.2.2.1.1 0 (by omega)
  refine Ct.ofJ (by decide +kernel) (Nat.le_of_ble_eq_true rfl) ?_
  refine J_L (L1 := [some (.ref (A 0)), none]) rfl ?_
  refine J_aload_n (pc1 := 1) rfl (i := 0) rfl dX9_wipe_0 rfl ?_
  refine J_get (pc1 := 4) (j := 4) inUX9 (ci := 9) rfl (by decide) lf_X9_36 dX9_wipe_1 rfl W.1 rfl ?_
  refine J_get (pc1 := 7) (j := 1) inUX5 (ci := 5) rfl (by decide) lf_X9_178 dX9_wipe_4 rfl W.2.2.2.2.2.2.1.1 rfl ?_
  refine J_istore_n (pc1 := 8) (L1 := [some (.ref (A 0)), some (.int (iI (L : Int)))]) rfl (i := 1) dX9_wipe_7 rfl (by decide) rfl rfl ?_
  refine J_aload_n (pc1 := 9) rfl (i := 0) rfl dX9_wipe_8 rfl ?_
  refine J_get (pc1 := 12) (j := 4) inUX9 (ci := 9) rfl (by decide) lf_X9_36 dX9_wipe_9 rfl W.1 rfl ?_
  refine J_callVN (pc1 := 15) (As := []) gv_X9_138 yv_X5_clear rfl (c_X5_clear W.2.2.2.2.2.2.1) dX9_wipe_12 rfl W.2.2.2.2.2.2.1.1 rfl rfl (by omega) (by decide) (by omega) (by omega) (Nat.le_of_ble_eq_true rfl) ?_
  have hwf := XW_pad (tx' := tx) (L' := 0) W hX6 ⟨pu_self _ _ _, (pu_ne _ _ (ne_IO W.2.2.2.2.2.2.1.2.1 W.2.2.2.2.2.2.1.1)).trans W.2.2.2.2.2.2.1.2.1, Nat.zero_le _, W.2.2.2.2.2.2.1.2.2.2⟩ (fun a a5 a6 => pu_ne S (oO 5 [.ref (A 6), .int (iI ((0 : Nat) : Int))]) a5)
  refine J_iload_n (pc1 := 16) rfl (i := 1) rfl dX9_wipe_15 rfl ?_
  exact J_iret rfl rfl dX9_wipe_16 (by omega) (by omega) (kIS_mk rfl ⟨⟨G, Z, O, F, mm, tb, hwf.1, e0, e1, e2, eH⟩, hwf.2⟩)
set_option maxHeartbeats 1000000 in
set_option maxRecDepth 20000 in
theorem pp_digit {X : Nat → Prop} {S : pS} {A : Nat → Nat} {f f1 f2 : Int → Int} {b0 b1 : Int} {n : Nat} {H : Nat → Int → Int} {tx : Int → Int} {L : Nat} (hX : XS X S A f f1 f2 b0 b1 n H tx L) (ok : okX f f1 f2 b0 b1 n H) {K : Option Value → pS → Prop} {i : Nat} {pl b nu : Int} (hi : i < L) (h48 : 48 ≤ tx i ∧ tx i ≤ 57) (k : Jd yX9_playPad cX9_playPad 6 (Option.some FieldType.int) 3 0 0 K 0 0 S 9 [some (.ref (A 0)), some (.int (iI pl)), some (.int (iI b)), some (.int (iI (nu * 10 + tx i - 48))), some (.int (iI ((i + 1 : Nat) : Int))), none] []) : Jd yX9_playPad cX9_playPad 6 (Option.some FieldType.int) 3 0 0 K 0 0 S 9 [some (.ref (A 0)), some (.int (iI pl)), some (.int (iI b)), some (.int (iI nu)), some (.int (iI (i : Int))), none] [] := by
  obtain ⟨G, Z, O, F, mm, tb, W, e0, e1, e2, eH⟩ := id hX
  have hg : IsG S (G 0) (Z 0) (O 0) f := e0 ▸ W.2.2.1.1 0 (by omega)
  have hL := W.2.2.2.2.2.2.1.2.2.1
  have ht := W.2.2.2.2.2.2.1.2.2.2 (i : Int)
  refine J_iload (pc1 := 11) rfl dX9_playPad_9 rfl ?_
  refine J_aload_n (pc1 := 12) rfl (i := 0) rfl dX9_playPad_11 rfl ?_
  refine J_get (pc1 := 15) (j := 4) inUX9 (ci := 9) rfl (by decide) lf_X9_36 dX9_playPad_12 rfl W.1 rfl ?_
  refine J_get (pc1 := 18) (j := 1) inUX5 (ci := 5) rfl (by decide) lf_X9_178 dX9_playPad_15 rfl W.2.2.2.2.2.2.1.1 rfl ?_
  refine J_icmp_gt (pc1 := 21) (tgt := 119) (by omega) (by omega) (by omega) (by omega) dX9_playPad_18 rfl rfl (fun hc1 => ?_) (fun hc1 => ?_)
  · exact absurd hc1 (by omega)
  · refine J_iload (pc1 := 23) rfl dX9_playPad_21 rfl ?_
    refine J_aload_n (pc1 := 24) rfl (i := 0) rfl dX9_playPad_23 rfl ?_
    refine J_get (pc1 := 27) (j := 4) inUX9 (ci := 9) rfl (by decide) lf_X9_36 dX9_playPad_24 rfl W.1 rfl ?_
    refine J_get (pc1 := 30) (j := 1) inUX5 (ci := 5) rfl (by decide) lf_X9_178 dX9_playPad_27 rfl W.2.2.2.2.2.2.1.1 rfl ?_
    refine J_icmp_ge (pc1 := 33) (tgt := 45) (by omega) (by omega) (by omega) (by omega) dX9_playPad_30 rfl rfl (fun hc2 => ?_) (fun hc2 => ?_)
    · exact absurd hc2 (by omega)
    · refine J_aload_n (pc1 := 34) rfl (i := 0) rfl dX9_playPad_33 rfl ?_
      refine J_get (pc1 := 37) (j := 4) inUX9 (ci := 9) rfl (by decide) lf_X9_36 dX9_playPad_34 rfl W.1 rfl ?_
      refine J_iload (pc1 := 39) rfl dX9_playPad_37 rfl ?_
      refine J_callVI (pc1 := 42) (As := [.int (iI (i : Int))]) gv_X9_234 yv_X5_signAt rfl (c_X5_signAt W.2.2.2.2.2.2.1 (i := (i : Int)) (by omega)) dX9_playPad_39 rfl W.2.2.2.2.2.2.1.1 rfl rfl (by omega) (by decide) (by omega) (by omega) (Nat.le_of_ble_eq_true rfl) ?_
      refine J_goto (tgt := 47) dX9_playPad_42 rfl ?_
      refine J_istore (pc1 := 49) (L1 := [some (.ref (A 0)), some (.int (iI pl)), some (.int (iI b)), some (.int (iI nu)), some (.int (iI (i : Int))), some (.int (iI (tx (i : Int))))]) dX9_playPad_47 rfl (by decide) rfl rfl ?_
      refine J_iload (pc1 := 51) rfl dX9_playPad_49 rfl ?_
      refine J_bipush (pc1 := 53) (by decide) dX9_playPad_51 rfl ?_
      refine J_icmp_ne (pc1 := 56) (tgt := 63) (by omega) (by omega) (by decide) (by decide) dX9_playPad_53 rfl rfl (fun hc3 => ?_) (fun hc3 => ?_)
      · refine J_iload (pc1 := 65) rfl dX9_playPad_63 rfl ?_
        refine J_bipush (pc1 := 67) (by decide) dX9_playPad_65 rfl ?_
        refine J_icmp_ne (pc1 := 70) (tgt := 102) (by omega) (by omega) (by decide) (by decide) dX9_playPad_67 rfl rfl (fun hc4 => ?_) (fun hc4 => ?_)
        · refine J_iload_n (pc1 := 103) rfl (i := 3) rfl dX9_playPad_102 rfl ?_
          refine J_bipush (pc1 := 105) (by decide) dX9_playPad_103 rfl ?_
          refine J_imul (pc1 := 106) dX9_playPad_105 rfl ?_
          refine J_iload (pc1 := 108) rfl dX9_playPad_106 rfl ?_
          refine J_iadd (pc1 := 109) dX9_playPad_108 rfl ?_
          refine J_bipush (pc1 := 111) (by decide) dX9_playPad_109 rfl ?_
          refine J_isub (pc1 := 112) dX9_playPad_111 rfl ?_
          refine J_istore_n (pc1 := 113) (L1 := [some (.ref (A 0)), some (.int (iI pl)), some (.int (iI b)), some (.int (iI (((nu * 10) + (tx (i : Int))) - 48))), some (.int (iI (i : Int))), some (.int (iI (tx (i : Int))))]) rfl (i := 3) dX9_playPad_112 rfl (by decide) rfl rfl ?_
          refine J_iinc (pc1 := 116) (L1 := [some (.ref (A 0)), some (.int (iI pl)), some (.int (iI b)), some (.int (iI (((nu * 10) + (tx (i : Int))) - 48))), some (.int (iI ((i : Int) + 1))), some (.int (iI (tx (i : Int))))]) dX9_playPad_113 rfl rfl (by decide) rfl rfl ?_
          refine J_goto (tgt := 9) dX9_playPad_116 rfl ?_
          refine J_sub (L1 := [some (.ref (A 0)), some (.int (iI pl)), some (.int (iI b)), some (.int (iI (((nu * 10) + (tx (i : Int))) - 48))), some (.int (iI ((i : Int) + 1))), none]) ⟨rfl, rfl, rfl, rfl, rfl, trivial⟩ ?_
          refine J_L (L1 := [some (.ref (A 0)), some (.int (iI pl)), some (.int (iI b)), some (.int (iI (nu * 10 + tx (i : Int) - 48))), some (.int (iI ((i + 1 : Nat) : Int))), none]) (by rw [(show ((i : Nat) : Int) + 1 = ((i + 1 : Nat) : Int) by omega)]) ?_
          exact k
        · exact absurd hc4 (by omega)
      · exact absurd hc3 (by omega)
set_option maxHeartbeats 1000000 in
set_option maxRecDepth 20000 in
theorem pp_colon {X : Nat → Prop} {S : pS} {A : Nat → Nat} {f f1 f2 : Int → Int} {b0 b1 : Int} {n : Nat} {H : Nat → Int → Int} {tx : Int → Int} {L : Nat} (hX : XS X S A f f1 f2 b0 b1 n H tx L) (ok : okX f f1 f2 b0 b1 n H) {K : Option Value → pS → Prop} {i : Nat} {pl b nu : Int} (hi : i < L) (h58 : tx i = 58) (k : Jd yX9_playPad cX9_playPad 6 (Option.some FieldType.int) 3 0 0 K 0 0 S 9 [some (.ref (A 0)), some (.int (iI pl)), some (.int (iI nu)), some (.int (iI 0)), some (.int (iI ((i + 1 : Nat) : Int))), none] []) : Jd yX9_playPad cX9_playPad 6 (Option.some FieldType.int) 3 0 0 K 0 0 S 9 [some (.ref (A 0)), some (.int (iI pl)), some (.int (iI b)), some (.int (iI nu)), some (.int (iI (i : Int))), none] [] := by
  obtain ⟨G, Z, O, F, mm, tb, W, e0, e1, e2, eH⟩ := id hX
  have hg : IsG S (G 0) (Z 0) (O 0) f := e0 ▸ W.2.2.1.1 0 (by omega)
  have hL := W.2.2.2.2.2.2.1.2.2.1
  have ht := W.2.2.2.2.2.2.1.2.2.2 (i : Int)
  refine J_iload (pc1 := 11) rfl dX9_playPad_9 rfl ?_
  refine J_aload_n (pc1 := 12) rfl (i := 0) rfl dX9_playPad_11 rfl ?_
  refine J_get (pc1 := 15) (j := 4) inUX9 (ci := 9) rfl (by decide) lf_X9_36 dX9_playPad_12 rfl W.1 rfl ?_
  refine J_get (pc1 := 18) (j := 1) inUX5 (ci := 5) rfl (by decide) lf_X9_178 dX9_playPad_15 rfl W.2.2.2.2.2.2.1.1 rfl ?_
  refine J_icmp_gt (pc1 := 21) (tgt := 119) (by omega) (by omega) (by omega) (by omega) dX9_playPad_18 rfl rfl (fun hc1 => ?_) (fun hc1 => ?_)
  · exact absurd hc1 (by omega)
  · refine J_iload (pc1 := 23) rfl dX9_playPad_21 rfl ?_
    refine J_aload_n (pc1 := 24) rfl (i := 0) rfl dX9_playPad_23 rfl ?_
    refine J_get (pc1 := 27) (j := 4) inUX9 (ci := 9) rfl (by decide) lf_X9_36 dX9_playPad_24 rfl W.1 rfl ?_
    refine J_get (pc1 := 30) (j := 1) inUX5 (ci := 5) rfl (by decide) lf_X9_178 dX9_playPad_27 rfl W.2.2.2.2.2.2.1.1 rfl ?_
    refine J_icmp_ge (pc1 := 33) (tgt := 45) (by omega) (by omega) (by omega) (by omega) dX9_playPad_30 rfl rfl (fun hc2 => ?_) (fun hc2 => ?_)
    · exact absurd hc2 (by omega)
    · refine J_aload_n (pc1 := 34) rfl (i := 0) rfl dX9_playPad_33 rfl ?_
      refine J_get (pc1 := 37) (j := 4) inUX9 (ci := 9) rfl (by decide) lf_X9_36 dX9_playPad_34 rfl W.1 rfl ?_
      refine J_iload (pc1 := 39) rfl dX9_playPad_37 rfl ?_
      refine J_callVI (pc1 := 42) (As := [.int (iI (i : Int))]) gv_X9_234 yv_X5_signAt rfl (c_X5_signAt W.2.2.2.2.2.2.1 (i := (i : Int)) (by omega)) dX9_playPad_39 rfl W.2.2.2.2.2.2.1.1 rfl rfl (by omega) (by decide) (by omega) (by omega) (Nat.le_of_ble_eq_true rfl) ?_
      refine J_goto (tgt := 47) dX9_playPad_42 rfl ?_
      refine J_istore (pc1 := 49) (L1 := [some (.ref (A 0)), some (.int (iI pl)), some (.int (iI b)), some (.int (iI nu)), some (.int (iI (i : Int))), some (.int (iI (tx (i : Int))))]) dX9_playPad_47 rfl (by decide) rfl rfl ?_
      refine J_iload (pc1 := 51) rfl dX9_playPad_49 rfl ?_
      refine J_bipush (pc1 := 53) (by decide) dX9_playPad_51 rfl ?_
      refine J_icmp_ne (pc1 := 56) (tgt := 63) (by omega) (by omega) (by decide) (by decide) dX9_playPad_53 rfl rfl (fun hc3 => ?_) (fun hc3 => ?_)
      · exact absurd h58 hc3
      · refine J_iload_n (pc1 := 57) rfl (i := 3) rfl dX9_playPad_56 rfl ?_
        refine J_istore_n (pc1 := 58) (L1 := [some (.ref (A 0)), some (.int (iI pl)), some (.int (iI nu)), some (.int (iI nu)), some (.int (iI (i : Int))), some (.int (iI (tx (i : Int))))]) rfl (i := 2) dX9_playPad_57 rfl (by decide) rfl rfl ?_
        refine J_iconst (pc1 := 59) dX9_playPad_58 rfl ?_
        refine J_istore_n (pc1 := 60) (L1 := [some (.ref (A 0)), some (.int (iI pl)), some (.int (iI nu)), some (.int (iI 0)), some (.int (iI (i : Int))), some (.int (iI (tx (i : Int))))]) rfl (i := 3) dX9_playPad_59 rfl (by decide) rfl rfl ?_
        refine J_goto (tgt := 113) dX9_playPad_60 rfl ?_
        refine J_iinc (pc1 := 116) (L1 := [some (.ref (A 0)), some (.int (iI pl)), some (.int (iI nu)), some (.int (iI 0)), some (.int (iI ((i : Int) + 1))), some (.int (iI (tx (i : Int))))]) dX9_playPad_113 rfl rfl (by decide) rfl rfl ?_
        refine J_goto (tgt := 9) dX9_playPad_116 rfl ?_
        refine J_sub (L1 := [some (.ref (A 0)), some (.int (iI pl)), some (.int (iI nu)), some (.int (iI 0)), some (.int (iI ((i : Int) + 1))), none]) ⟨rfl, rfl, rfl, rfl, rfl, trivial⟩ ?_
        refine J_L (L1 := [some (.ref (A 0)), some (.int (iI pl)), some (.int (iI nu)), some (.int (iI 0)), some (.int (iI ((i + 1 : Nat) : Int))), none]) (by rw [(show ((i : Nat) : Int) + 1 = ((i + 1 : Nat) : Int) by omega)]) ?_
        exact k
set_option maxHeartbeats 1000000 in
set_option maxRecDepth 20000 in
theorem pp_no_c {X : Nat → Prop} {S : pS} {A : Nat → Nat} {f f1 f2 : Int → Int} {b0 b1 : Int} {n : Nat} {H : Nat → Int → Int} {tx : Int → Int} {L : Nat} (hX : XS X S A f f1 f2 b0 b1 n H tx L) (ok : okX f f1 f2 b0 b1 n H) {K : Option Value → pS → Prop} {i : Nat} {pl b nu : Int} (hi : i < L) (h44 : tx i = 44) (hb : 0 ≤ b ∧ b ≤ 14) (hnu : 0 ≤ nu ∧ nu ≤ 14) (hal : ¬ alD f b nu) (k : K (some (.int (iI pl))) S) : Jd yX9_playPad cX9_playPad 6 (Option.some FieldType.int) 3 0 0 K 0 0 S 9 [some (.ref (A 0)), some (.int (iI pl)), some (.int (iI b)), some (.int (iI nu)), some (.int (iI (i : Int))), none] [] := by
  obtain ⟨G, Z, O, F, mm, tb, W, e0, e1, e2, eH⟩ := id hX
  have hg : IsG S (G 0) (Z 0) (O 0) f := e0 ▸ W.2.2.1.1 0 (by omega)
  have hL := W.2.2.2.2.2.2.1.2.2.1
  have ht := W.2.2.2.2.2.2.1.2.2.2 (i : Int)
  refine J_iload (pc1 := 11) rfl dX9_playPad_9 rfl ?_
  refine J_aload_n (pc1 := 12) rfl (i := 0) rfl dX9_playPad_11 rfl ?_
  refine J_get (pc1 := 15) (j := 4) inUX9 (ci := 9) rfl (by decide) lf_X9_36 dX9_playPad_12 rfl W.1 rfl ?_
  refine J_get (pc1 := 18) (j := 1) inUX5 (ci := 5) rfl (by decide) lf_X9_178 dX9_playPad_15 rfl W.2.2.2.2.2.2.1.1 rfl ?_
  refine J_icmp_gt (pc1 := 21) (tgt := 119) (by omega) (by omega) (by omega) (by omega) dX9_playPad_18 rfl rfl (fun hc1 => ?_) (fun hc1 => ?_)
  · exact absurd hc1 (by omega)
  · refine J_iload (pc1 := 23) rfl dX9_playPad_21 rfl ?_
    refine J_aload_n (pc1 := 24) rfl (i := 0) rfl dX9_playPad_23 rfl ?_
    refine J_get (pc1 := 27) (j := 4) inUX9 (ci := 9) rfl (by decide) lf_X9_36 dX9_playPad_24 rfl W.1 rfl ?_
    refine J_get (pc1 := 30) (j := 1) inUX5 (ci := 5) rfl (by decide) lf_X9_178 dX9_playPad_27 rfl W.2.2.2.2.2.2.1.1 rfl ?_
    refine J_icmp_ge (pc1 := 33) (tgt := 45) (by omega) (by omega) (by omega) (by omega) dX9_playPad_30 rfl rfl (fun hc2 => ?_) (fun hc2 => ?_)
    · exact absurd hc2 (by omega)
    · refine J_aload_n (pc1 := 34) rfl (i := 0) rfl dX9_playPad_33 rfl ?_
      refine J_get (pc1 := 37) (j := 4) inUX9 (ci := 9) rfl (by decide) lf_X9_36 dX9_playPad_34 rfl W.1 rfl ?_
      refine J_iload (pc1 := 39) rfl dX9_playPad_37 rfl ?_
      refine J_callVI (pc1 := 42) (As := [.int (iI (i : Int))]) gv_X9_234 yv_X5_signAt rfl (c_X5_signAt W.2.2.2.2.2.2.1 (i := (i : Int)) (by omega)) dX9_playPad_39 rfl W.2.2.2.2.2.2.1.1 rfl rfl (by omega) (by decide) (by omega) (by omega) (Nat.le_of_ble_eq_true rfl) ?_
      refine J_goto (tgt := 47) dX9_playPad_42 rfl ?_
      refine J_istore (pc1 := 49) (L1 := [some (.ref (A 0)), some (.int (iI pl)), some (.int (iI b)), some (.int (iI nu)), some (.int (iI (i : Int))), some (.int (iI (tx (i : Int))))]) dX9_playPad_47 rfl (by decide) rfl rfl ?_
      refine J_iload (pc1 := 51) rfl dX9_playPad_49 rfl ?_
      refine J_bipush (pc1 := 53) (by decide) dX9_playPad_51 rfl ?_
      refine J_icmp_ne (pc1 := 56) (tgt := 63) (by omega) (by omega) (by decide) (by decide) dX9_playPad_53 rfl rfl (fun hc3 => ?_) (fun hc3 => ?_)
      · refine J_iload (pc1 := 65) rfl dX9_playPad_63 rfl ?_
        refine J_bipush (pc1 := 67) (by decide) dX9_playPad_65 rfl ?_
        refine J_icmp_ne (pc1 := 70) (tgt := 102) (by omega) (by omega) (by decide) (by decide) dX9_playPad_67 rfl rfl (fun hc4 => ?_) (fun hc4 => ?_)
        · exact absurd h44 hc4
        · refine J_aload_n (pc1 := 71) rfl (i := 0) rfl dX9_playPad_70 rfl ?_
          refine J_get (pc1 := 74) (j := 0) inUX9 (ci := 9) rfl (by decide) lf_X9_12 dX9_playPad_71 rfl W.1 rfl ?_
          refine J_iload_n (pc1 := 75) rfl (i := 2) rfl dX9_playPad_74 rfl ?_
          refine J_iload_n (pc1 := 76) rfl (i := 3) rfl dX9_playPad_75 rfl ?_
          refine J_callVI (pc1 := 79) (As := [.int (iI b), .int (iI nu)]) gv_X9_107 yv_X2_allows rfl (c_X2_allows hg ok.1 (b := b) (a := nu) (by omega) (by omega)) dX9_playPad_76 rfl hg.1 rfl rfl (by omega) (by decide) (by omega) (by omega) (Nat.le_of_ble_eq_true rfl) ?_
          refine J_if_ne (pc1 := 82) (tgt := 84) (bZ_lo _) (bZ_hi _) dX9_playPad_79 rfl rfl (fun hc5 => ?_) (fun hc5 => ?_)
          · exact absurd (bZ_1 (P := winF f = -1006 ∧ b ≤ moF f (f 5) ∧ nu ≤ moF f (1 - f 5)) hc5) hal
          · refine J_iload_n (pc1 := 83) rfl (i := 1) rfl dX9_playPad_82 rfl ?_
            exact J_iret rfl rfl dX9_playPad_83 (by omega) (by omega) (k)
      · exact absurd hc3 (by omega)
set_option maxHeartbeats 1000000 in
set_option maxRecDepth 20000 in
theorem pp_yes_c {X : Nat → Prop} {S : pS} {A : Nat → Nat} {f f1 f2 : Int → Int} {b0 b1 : Int} {n : Nat} {H : Nat → Int → Int} {tx : Int → Int} {L : Nat} (hX : XS X S A f f1 f2 b0 b1 n H tx L) (ok : okX f f1 f2 b0 b1 n H) {K : Option Value → pS → Prop} {i : Nat} {pl b nu : Int} (hi : i < L) (h44 : tx i = 44) (hb : 0 ≤ b ∧ b ≤ 14) (hnu : 0 ≤ nu ∧ nu ≤ 14) (hal : alD f b nu) (k : ∀ T, XS X T A (plF f b nu) f1 f2 b0 b1 n H tx L → frX S T (A 6) → Jd yX9_playPad cX9_playPad 6 (Option.some FieldType.int) 3 0 0 K 0 0 T 9 [some (.ref (A 0)), some (.int (iI (pl + 1))), some (.int (iI b)), some (.int (iI 0)), some (.int (iI ((i + 1 : Nat) : Int))), none] []) : Jd yX9_playPad cX9_playPad 6 (Option.some FieldType.int) 3 0 0 K 0 0 S 9 [some (.ref (A 0)), some (.int (iI pl)), some (.int (iI b)), some (.int (iI nu)), some (.int (iI (i : Int))), none] [] := by
  obtain ⟨G, Z, O, F, mm, tb, W, e0, e1, e2, eH⟩ := id hX
  have hg : IsG S (G 0) (Z 0) (O 0) f := e0 ▸ W.2.2.1.1 0 (by omega)
  have hL := W.2.2.2.2.2.2.1.2.2.1
  have ht := W.2.2.2.2.2.2.1.2.2.2 (i : Int)
  refine J_iload (pc1 := 11) rfl dX9_playPad_9 rfl ?_
  refine J_aload_n (pc1 := 12) rfl (i := 0) rfl dX9_playPad_11 rfl ?_
  refine J_get (pc1 := 15) (j := 4) inUX9 (ci := 9) rfl (by decide) lf_X9_36 dX9_playPad_12 rfl W.1 rfl ?_
  refine J_get (pc1 := 18) (j := 1) inUX5 (ci := 5) rfl (by decide) lf_X9_178 dX9_playPad_15 rfl W.2.2.2.2.2.2.1.1 rfl ?_
  refine J_icmp_gt (pc1 := 21) (tgt := 119) (by omega) (by omega) (by omega) (by omega) dX9_playPad_18 rfl rfl (fun hc1 => ?_) (fun hc1 => ?_)
  · exact absurd hc1 (by omega)
  · refine J_iload (pc1 := 23) rfl dX9_playPad_21 rfl ?_
    refine J_aload_n (pc1 := 24) rfl (i := 0) rfl dX9_playPad_23 rfl ?_
    refine J_get (pc1 := 27) (j := 4) inUX9 (ci := 9) rfl (by decide) lf_X9_36 dX9_playPad_24 rfl W.1 rfl ?_
    refine J_get (pc1 := 30) (j := 1) inUX5 (ci := 5) rfl (by decide) lf_X9_178 dX9_playPad_27 rfl W.2.2.2.2.2.2.1.1 rfl ?_
    refine J_icmp_ge (pc1 := 33) (tgt := 45) (by omega) (by omega) (by omega) (by omega) dX9_playPad_30 rfl rfl (fun hc2 => ?_) (fun hc2 => ?_)
    · exact absurd hc2 (by omega)
    · refine J_aload_n (pc1 := 34) rfl (i := 0) rfl dX9_playPad_33 rfl ?_
      refine J_get (pc1 := 37) (j := 4) inUX9 (ci := 9) rfl (by decide) lf_X9_36 dX9_playPad_34 rfl W.1 rfl ?_
      refine J_iload (pc1 := 39) rfl dX9_playPad_37 rfl ?_
      refine J_callVI (pc1 := 42) (As := [.int (iI (i : Int))]) gv_X9_234 yv_X5_signAt rfl (c_X5_signAt W.2.2.2.2.2.2.1 (i := (i : Int)) (by omega)) dX9_playPad_39 rfl W.2.2.2.2.2.2.1.1 rfl rfl (by omega) (by decide) (by omega) (by omega) (Nat.le_of_ble_eq_true rfl) ?_
      refine J_goto (tgt := 47) dX9_playPad_42 rfl ?_
      refine J_istore (pc1 := 49) (L1 := [some (.ref (A 0)), some (.int (iI pl)), some (.int (iI b)), some (.int (iI nu)), some (.int (iI (i : Int))), some (.int (iI (tx (i : Int))))]) dX9_playPad_47 rfl (by decide) rfl rfl ?_
      refine J_iload (pc1 := 51) rfl dX9_playPad_49 rfl ?_
      refine J_bipush (pc1 := 53) (by decide) dX9_playPad_51 rfl ?_
      refine J_icmp_ne (pc1 := 56) (tgt := 63) (by omega) (by omega) (by decide) (by decide) dX9_playPad_53 rfl rfl (fun hc3 => ?_) (fun hc3 => ?_)
      · refine J_iload (pc1 := 65) rfl dX9_playPad_63 rfl ?_
        refine J_bipush (pc1 := 67) (by decide) dX9_playPad_65 rfl ?_
        refine J_icmp_ne (pc1 := 70) (tgt := 102) (by omega) (by omega) (by decide) (by decide) dX9_playPad_67 rfl rfl (fun hc4 => ?_) (fun hc4 => ?_)
        · exact absurd h44 hc4
        · refine J_aload_n (pc1 := 71) rfl (i := 0) rfl dX9_playPad_70 rfl ?_
          refine J_get (pc1 := 74) (j := 0) inUX9 (ci := 9) rfl (by decide) lf_X9_12 dX9_playPad_71 rfl W.1 rfl ?_
          refine J_iload_n (pc1 := 75) rfl (i := 2) rfl dX9_playPad_74 rfl ?_
          refine J_iload_n (pc1 := 76) rfl (i := 3) rfl dX9_playPad_75 rfl ?_
          refine J_callVI (pc1 := 79) (As := [.int (iI b), .int (iI nu)]) gv_X9_107 yv_X2_allows rfl (c_X2_allows hg ok.1 (b := b) (a := nu) (by omega) (by omega)) dX9_playPad_76 rfl hg.1 rfl rfl (by omega) (by decide) (by omega) (by omega) (Nat.le_of_ble_eq_true rfl) ?_
          refine J_if_ne (pc1 := 82) (tgt := 84) (bZ_lo _) (bZ_hi _) dX9_playPad_79 rfl rfl (fun hc5 => ?_) (fun hc5 => ?_)
          · refine J_aload_n (pc1 := 85) rfl (i := 0) rfl dX9_playPad_84 rfl ?_
            refine J_get (pc1 := 88) (j := 0) inUX9 (ci := 9) rfl (by decide) lf_X9_12 dX9_playPad_85 rfl W.1 rfl ?_
            refine J_iload_n (pc1 := 89) rfl (i := 2) rfl dX9_playPad_88 rfl ?_
            refine J_iload_n (pc1 := 90) rfl (i := 3) rfl dX9_playPad_89 rfl ?_
            refine J_callVIs (pc1 := 93) (As := [.int (iI b), .int (iI nu)]) gv_X9_111 yv_X2_playRound rfl (c_X2_playRound hg ok.1 (b := b) (a := nu) (by omega) (by omega)) dX9_playPad_90 rfl hg.1 rfl rfl (by omega) (by decide) (by omega) (by omega) (Nat.le_of_ble_eq_true rfl) (fun T1 hU1 => ?_)
            obtain ⟨hX1, fr1⟩ := XS_ug W e1 e2 eH hU1
            obtain ⟨G1, Z1, O1, F1, mm1, tb1, W1, e01, e11, e21, eH1⟩ := id hX1
            have hg1 : IsG T1 (G1 0) (Z1 0) (O1 0) (plF f b nu) := e01 ▸ W1.2.2.1.1 0 (by omega)
            refine J_pop (pc1 := 94) rfl dX9_playPad_93 rfl ?_
            refine J_iinc (pc1 := 97) (L1 := [some (.ref (A 0)), some (.int (iI (pl + 1))), some (.int (iI b)), some (.int (iI nu)), some (.int (iI (i : Int))), some (.int (iI (tx (i : Int))))]) dX9_playPad_94 rfl rfl (by decide) rfl rfl ?_
            refine J_iconst (pc1 := 98) dX9_playPad_97 rfl ?_
            refine J_istore_n (pc1 := 99) (L1 := [some (.ref (A 0)), some (.int (iI (pl + 1))), some (.int (iI b)), some (.int (iI 0)), some (.int (iI (i : Int))), some (.int (iI (tx (i : Int))))]) rfl (i := 3) dX9_playPad_98 rfl (by decide) rfl rfl ?_
            refine J_goto (tgt := 113) dX9_playPad_99 rfl ?_
            refine J_iinc (pc1 := 116) (L1 := [some (.ref (A 0)), some (.int (iI (pl + 1))), some (.int (iI b)), some (.int (iI 0)), some (.int (iI ((i : Int) + 1))), some (.int (iI (tx (i : Int))))]) dX9_playPad_113 rfl rfl (by decide) rfl rfl ?_
            refine J_goto (tgt := 9) dX9_playPad_116 rfl ?_
            refine J_sub (L1 := [some (.ref (A 0)), some (.int (iI (pl + 1))), some (.int (iI b)), some (.int (iI 0)), some (.int (iI ((i : Int) + 1))), none]) ⟨rfl, rfl, rfl, rfl, rfl, trivial⟩ ?_
            refine J_L (L1 := [some (.ref (A 0)), some (.int (iI (pl + 1))), some (.int (iI b)), some (.int (iI 0)), some (.int (iI ((i + 1 : Nat) : Int))), none]) (by rw [(show ((i : Nat) : Int) + 1 = ((i + 1 : Nat) : Int) by omega)]) ?_
            exact k T1 hX1 fr1
          · exact absurd hal (bZ_0 (P := winF f = -1006 ∧ b ≤ moF f (f 5) ∧ nu ≤ moF f (1 - f 5)) hc5)
      · exact absurd hc3 (by omega)
set_option maxHeartbeats 1000000 in
set_option maxRecDepth 20000 in
theorem pp_no_e {X : Nat → Prop} {S : pS} {A : Nat → Nat} {f f1 f2 : Int → Int} {b0 b1 : Int} {n : Nat} {H : Nat → Int → Int} {tx : Int → Int} {L : Nat} (hX : XS X S A f f1 f2 b0 b1 n H tx L) (ok : okX f f1 f2 b0 b1 n H) {K : Option Value → pS → Prop} {i : Nat} {pl b nu : Int} (hi : i = L) (hb : 0 ≤ b ∧ b ≤ 14) (hnu : 0 ≤ nu ∧ nu ≤ 14) (hal : ¬ alD f b nu) (k : K (some (.int (iI pl))) S) : Jd yX9_playPad cX9_playPad 6 (Option.some FieldType.int) 3 0 0 K 0 0 S 9 [some (.ref (A 0)), some (.int (iI pl)), some (.int (iI b)), some (.int (iI nu)), some (.int (iI (i : Int))), none] [] := by
  obtain ⟨G, Z, O, F, mm, tb, W, e0, e1, e2, eH⟩ := id hX
  have hg : IsG S (G 0) (Z 0) (O 0) f := e0 ▸ W.2.2.1.1 0 (by omega)
  have hL := W.2.2.2.2.2.2.1.2.2.1
  have ht := W.2.2.2.2.2.2.1.2.2.2 (i : Int)
  refine J_iload (pc1 := 11) rfl dX9_playPad_9 rfl ?_
  refine J_aload_n (pc1 := 12) rfl (i := 0) rfl dX9_playPad_11 rfl ?_
  refine J_get (pc1 := 15) (j := 4) inUX9 (ci := 9) rfl (by decide) lf_X9_36 dX9_playPad_12 rfl W.1 rfl ?_
  refine J_get (pc1 := 18) (j := 1) inUX5 (ci := 5) rfl (by decide) lf_X9_178 dX9_playPad_15 rfl W.2.2.2.2.2.2.1.1 rfl ?_
  refine J_icmp_gt (pc1 := 21) (tgt := 119) (by omega) (by omega) (by omega) (by omega) dX9_playPad_18 rfl rfl (fun hc1 => ?_) (fun hc1 => ?_)
  · exact absurd hc1 (by omega)
  · refine J_iload (pc1 := 23) rfl dX9_playPad_21 rfl ?_
    refine J_aload_n (pc1 := 24) rfl (i := 0) rfl dX9_playPad_23 rfl ?_
    refine J_get (pc1 := 27) (j := 4) inUX9 (ci := 9) rfl (by decide) lf_X9_36 dX9_playPad_24 rfl W.1 rfl ?_
    refine J_get (pc1 := 30) (j := 1) inUX5 (ci := 5) rfl (by decide) lf_X9_178 dX9_playPad_27 rfl W.2.2.2.2.2.2.1.1 rfl ?_
    refine J_icmp_ge (pc1 := 33) (tgt := 45) (by omega) (by omega) (by omega) (by omega) dX9_playPad_30 rfl rfl (fun hc2 => ?_) (fun hc2 => ?_)
    · refine J_bipush (pc1 := 47) (by decide) dX9_playPad_45 rfl ?_
      refine J_istore (pc1 := 49) (L1 := [some (.ref (A 0)), some (.int (iI pl)), some (.int (iI b)), some (.int (iI nu)), some (.int (iI (i : Int))), some (.int (iI 44))]) dX9_playPad_47 rfl (by decide) rfl rfl ?_
      refine J_iload (pc1 := 51) rfl dX9_playPad_49 rfl ?_
      refine J_bipush (pc1 := 53) (by decide) dX9_playPad_51 rfl ?_
      refine J_icmp_ne (pc1 := 56) (tgt := 63) (by decide) (by decide) (by decide) (by decide) dX9_playPad_53 rfl rfl (fun hc3 => ?_) (fun hc3 => ?_)
      · refine J_iload (pc1 := 65) rfl dX9_playPad_63 rfl ?_
        refine J_bipush (pc1 := 67) (by decide) dX9_playPad_65 rfl ?_
        refine J_icmp_ne (pc1 := 70) (tgt := 102) (by decide) (by decide) (by decide) (by decide) dX9_playPad_67 rfl rfl (fun hc4 => ?_) (fun hc4 => ?_)
        · exact absurd rfl hc4
        · refine J_aload_n (pc1 := 71) rfl (i := 0) rfl dX9_playPad_70 rfl ?_
          refine J_get (pc1 := 74) (j := 0) inUX9 (ci := 9) rfl (by decide) lf_X9_12 dX9_playPad_71 rfl W.1 rfl ?_
          refine J_iload_n (pc1 := 75) rfl (i := 2) rfl dX9_playPad_74 rfl ?_
          refine J_iload_n (pc1 := 76) rfl (i := 3) rfl dX9_playPad_75 rfl ?_
          refine J_callVI (pc1 := 79) (As := [.int (iI b), .int (iI nu)]) gv_X9_107 yv_X2_allows rfl (c_X2_allows hg ok.1 (b := b) (a := nu) (by omega) (by omega)) dX9_playPad_76 rfl hg.1 rfl rfl (by omega) (by decide) (by omega) (by omega) (Nat.le_of_ble_eq_true rfl) ?_
          refine J_if_ne (pc1 := 82) (tgt := 84) (bZ_lo _) (bZ_hi _) dX9_playPad_79 rfl rfl (fun hc5 => ?_) (fun hc5 => ?_)
          · exact absurd (bZ_1 (P := winF f = -1006 ∧ b ≤ moF f (f 5) ∧ nu ≤ moF f (1 - f 5)) hc5) hal
          · refine J_iload_n (pc1 := 83) rfl (i := 1) rfl dX9_playPad_82 rfl ?_
            exact J_iret rfl rfl dX9_playPad_83 (by omega) (by omega) (k)
      · exact absurd hc3 (by decide)
    · exact absurd hc2 (by omega)
set_option maxHeartbeats 1000000 in
set_option maxRecDepth 20000 in
theorem pp_yes_e {X : Nat → Prop} {S : pS} {A : Nat → Nat} {f f1 f2 : Int → Int} {b0 b1 : Int} {n : Nat} {H : Nat → Int → Int} {tx : Int → Int} {L : Nat} (hX : XS X S A f f1 f2 b0 b1 n H tx L) (ok : okX f f1 f2 b0 b1 n H) {K : Option Value → pS → Prop} {i : Nat} {pl b nu : Int} (hi : i = L) (hb : 0 ≤ b ∧ b ≤ 14) (hnu : 0 ≤ nu ∧ nu ≤ 14) (hal : alD f b nu) (k : ∀ T, XS X T A (plF f b nu) f1 f2 b0 b1 n H tx L → frX S T (A 6) → Jd yX9_playPad cX9_playPad 6 (Option.some FieldType.int) 3 0 0 K 0 0 T 9 [some (.ref (A 0)), some (.int (iI (pl + 1))), some (.int (iI b)), some (.int (iI 0)), some (.int (iI ((i + 1 : Nat) : Int))), none] []) : Jd yX9_playPad cX9_playPad 6 (Option.some FieldType.int) 3 0 0 K 0 0 S 9 [some (.ref (A 0)), some (.int (iI pl)), some (.int (iI b)), some (.int (iI nu)), some (.int (iI (i : Int))), none] [] := by
  obtain ⟨G, Z, O, F, mm, tb, W, e0, e1, e2, eH⟩ := id hX
  have hg : IsG S (G 0) (Z 0) (O 0) f := e0 ▸ W.2.2.1.1 0 (by omega)
  have hL := W.2.2.2.2.2.2.1.2.2.1
  have ht := W.2.2.2.2.2.2.1.2.2.2 (i : Int)
  refine J_iload (pc1 := 11) rfl dX9_playPad_9 rfl ?_
  refine J_aload_n (pc1 := 12) rfl (i := 0) rfl dX9_playPad_11 rfl ?_
  refine J_get (pc1 := 15) (j := 4) inUX9 (ci := 9) rfl (by decide) lf_X9_36 dX9_playPad_12 rfl W.1 rfl ?_
  refine J_get (pc1 := 18) (j := 1) inUX5 (ci := 5) rfl (by decide) lf_X9_178 dX9_playPad_15 rfl W.2.2.2.2.2.2.1.1 rfl ?_
  refine J_icmp_gt (pc1 := 21) (tgt := 119) (by omega) (by omega) (by omega) (by omega) dX9_playPad_18 rfl rfl (fun hc1 => ?_) (fun hc1 => ?_)
  · exact absurd hc1 (by omega)
  · refine J_iload (pc1 := 23) rfl dX9_playPad_21 rfl ?_
    refine J_aload_n (pc1 := 24) rfl (i := 0) rfl dX9_playPad_23 rfl ?_
    refine J_get (pc1 := 27) (j := 4) inUX9 (ci := 9) rfl (by decide) lf_X9_36 dX9_playPad_24 rfl W.1 rfl ?_
    refine J_get (pc1 := 30) (j := 1) inUX5 (ci := 5) rfl (by decide) lf_X9_178 dX9_playPad_27 rfl W.2.2.2.2.2.2.1.1 rfl ?_
    refine J_icmp_ge (pc1 := 33) (tgt := 45) (by omega) (by omega) (by omega) (by omega) dX9_playPad_30 rfl rfl (fun hc2 => ?_) (fun hc2 => ?_)
    · refine J_bipush (pc1 := 47) (by decide) dX9_playPad_45 rfl ?_
      refine J_istore (pc1 := 49) (L1 := [some (.ref (A 0)), some (.int (iI pl)), some (.int (iI b)), some (.int (iI nu)), some (.int (iI (i : Int))), some (.int (iI 44))]) dX9_playPad_47 rfl (by decide) rfl rfl ?_
      refine J_iload (pc1 := 51) rfl dX9_playPad_49 rfl ?_
      refine J_bipush (pc1 := 53) (by decide) dX9_playPad_51 rfl ?_
      refine J_icmp_ne (pc1 := 56) (tgt := 63) (by decide) (by decide) (by decide) (by decide) dX9_playPad_53 rfl rfl (fun hc3 => ?_) (fun hc3 => ?_)
      · refine J_iload (pc1 := 65) rfl dX9_playPad_63 rfl ?_
        refine J_bipush (pc1 := 67) (by decide) dX9_playPad_65 rfl ?_
        refine J_icmp_ne (pc1 := 70) (tgt := 102) (by decide) (by decide) (by decide) (by decide) dX9_playPad_67 rfl rfl (fun hc4 => ?_) (fun hc4 => ?_)
        · exact absurd rfl hc4
        · refine J_aload_n (pc1 := 71) rfl (i := 0) rfl dX9_playPad_70 rfl ?_
          refine J_get (pc1 := 74) (j := 0) inUX9 (ci := 9) rfl (by decide) lf_X9_12 dX9_playPad_71 rfl W.1 rfl ?_
          refine J_iload_n (pc1 := 75) rfl (i := 2) rfl dX9_playPad_74 rfl ?_
          refine J_iload_n (pc1 := 76) rfl (i := 3) rfl dX9_playPad_75 rfl ?_
          refine J_callVI (pc1 := 79) (As := [.int (iI b), .int (iI nu)]) gv_X9_107 yv_X2_allows rfl (c_X2_allows hg ok.1 (b := b) (a := nu) (by omega) (by omega)) dX9_playPad_76 rfl hg.1 rfl rfl (by omega) (by decide) (by omega) (by omega) (Nat.le_of_ble_eq_true rfl) ?_
          refine J_if_ne (pc1 := 82) (tgt := 84) (bZ_lo _) (bZ_hi _) dX9_playPad_79 rfl rfl (fun hc5 => ?_) (fun hc5 => ?_)
          · refine J_aload_n (pc1 := 85) rfl (i := 0) rfl dX9_playPad_84 rfl ?_
            refine J_get (pc1 := 88) (j := 0) inUX9 (ci := 9) rfl (by decide) lf_X9_12 dX9_playPad_85 rfl W.1 rfl ?_
            refine J_iload_n (pc1 := 89) rfl (i := 2) rfl dX9_playPad_88 rfl ?_
            refine J_iload_n (pc1 := 90) rfl (i := 3) rfl dX9_playPad_89 rfl ?_
            refine J_callVIs (pc1 := 93) (As := [.int (iI b), .int (iI nu)]) gv_X9_111 yv_X2_playRound rfl (c_X2_playRound hg ok.1 (b := b) (a := nu) (by omega) (by omega)) dX9_playPad_90 rfl hg.1 rfl rfl (by omega) (by decide) (by omega) (by omega) (Nat.le_of_ble_eq_true rfl) (fun T1 hU1 => ?_)
            obtain ⟨hX1, fr1⟩ := XS_ug W e1 e2 eH hU1
            obtain ⟨G1, Z1, O1, F1, mm1, tb1, W1, e01, e11, e21, eH1⟩ := id hX1
            have hg1 : IsG T1 (G1 0) (Z1 0) (O1 0) (plF f b nu) := e01 ▸ W1.2.2.1.1 0 (by omega)
            refine J_pop (pc1 := 94) rfl dX9_playPad_93 rfl ?_
            refine J_iinc (pc1 := 97) (L1 := [some (.ref (A 0)), some (.int (iI (pl + 1))), some (.int (iI b)), some (.int (iI nu)), some (.int (iI (i : Int))), some (.int (iI 44))]) dX9_playPad_94 rfl rfl (by decide) rfl rfl ?_
            refine J_iconst (pc1 := 98) dX9_playPad_97 rfl ?_
            refine J_istore_n (pc1 := 99) (L1 := [some (.ref (A 0)), some (.int (iI (pl + 1))), some (.int (iI b)), some (.int (iI 0)), some (.int (iI (i : Int))), some (.int (iI 44))]) rfl (i := 3) dX9_playPad_98 rfl (by decide) rfl rfl ?_
            refine J_goto (tgt := 113) dX9_playPad_99 rfl ?_
            refine J_iinc (pc1 := 116) (L1 := [some (.ref (A 0)), some (.int (iI (pl + 1))), some (.int (iI b)), some (.int (iI 0)), some (.int (iI ((i : Int) + 1))), some (.int (iI 44))]) dX9_playPad_113 rfl rfl (by decide) rfl rfl ?_
            refine J_goto (tgt := 9) dX9_playPad_116 rfl ?_
            refine J_sub (L1 := [some (.ref (A 0)), some (.int (iI (pl + 1))), some (.int (iI b)), some (.int (iI 0)), some (.int (iI ((i : Int) + 1))), none]) ⟨rfl, rfl, rfl, rfl, rfl, trivial⟩ ?_
            refine J_L (L1 := [some (.ref (A 0)), some (.int (iI (pl + 1))), some (.int (iI b)), some (.int (iI 0)), some (.int (iI ((i + 1 : Nat) : Int))), none]) (by rw [(show ((i : Nat) : Int) + 1 = ((i + 1 : Nat) : Int) by omega)]) ?_
            exact k T1 hX1 fr1
          · exact absurd hal (bZ_0 (P := winF f = -1006 ∧ b ≤ moF f (f 5) ∧ nu ≤ moF f (1 - f 5)) hc5)
      · exact absurd hc3 (by decide)
    · exact absurd hc2 (by omega)
set_option maxHeartbeats 1000000 in
set_option maxRecDepth 20000 in
theorem pp_end {X : Nat → Prop} {S : pS} {A : Nat → Nat} {f f1 f2 : Int → Int} {b0 b1 : Int} {n : Nat} {H : Nat → Int → Int} {tx : Int → Int} {L : Nat} (hX : XS X S A f f1 f2 b0 b1 n H tx L) (ok : okX f f1 f2 b0 b1 n H) {K : Option Value → pS → Prop} {i : Nat} {pl b nu : Int} (hi : i = L + 1) (k : K (some (.int (iI pl))) S) : Jd yX9_playPad cX9_playPad 6 (Option.some FieldType.int) 3 0 0 K 0 0 S 9 [some (.ref (A 0)), some (.int (iI pl)), some (.int (iI b)), some (.int (iI nu)), some (.int (iI (i : Int))), none] [] := by
  obtain ⟨G, Z, O, F, mm, tb, W, e0, e1, e2, eH⟩ := id hX
  have hg : IsG S (G 0) (Z 0) (O 0) f := e0 ▸ W.2.2.1.1 0 (by omega)
  have hL := W.2.2.2.2.2.2.1.2.2.1
  have ht := W.2.2.2.2.2.2.1.2.2.2 (i : Int)
  refine J_iload (pc1 := 11) rfl dX9_playPad_9 rfl ?_
  refine J_aload_n (pc1 := 12) rfl (i := 0) rfl dX9_playPad_11 rfl ?_
  refine J_get (pc1 := 15) (j := 4) inUX9 (ci := 9) rfl (by decide) lf_X9_36 dX9_playPad_12 rfl W.1 rfl ?_
  refine J_get (pc1 := 18) (j := 1) inUX5 (ci := 5) rfl (by decide) lf_X9_178 dX9_playPad_15 rfl W.2.2.2.2.2.2.1.1 rfl ?_
  refine J_icmp_gt (pc1 := 21) (tgt := 119) (by omega) (by omega) (by omega) (by omega) dX9_playPad_18 rfl rfl (fun hc1 => ?_) (fun hc1 => ?_)
  · refine J_iload_n (pc1 := 120) rfl (i := 1) rfl dX9_playPad_119 rfl ?_
    exact J_iret rfl rfl dX9_playPad_120 (by omega) (by omega) (k)
  · exact absurd hc1 (by omega)
theorem pp_num {X : Nat → Prop} {S : pS} {A : Nat → Nat} {f f1 f2 : Int → Int} {b0 b1 : Int} {n : Nat} {H : Nat → Int → Int} {tx : Int → Int} {L : Nat} (hX : XS X S A f f1 f2 b0 b1 n H tx L) (ok : okX f f1 f2 b0 b1 n H) {K : Option Value → pS → Prop} {i j : Nat} {pl b v : Int} (h : Bd tx i j v) (hj : j ≤ L) (k : Jd yX9_playPad cX9_playPad 6 (Option.some FieldType.int) 3 0 0 K 0 0 S 9 [some (.ref (A 0)), some (.int (iI pl)), some (.int (iI b)), some (.int (iI v)), some (.int (iI (j : Int))), none] []) : Jd yX9_playPad cX9_playPad 6 (Option.some FieldType.int) 3 0 0 K 0 0 S 9 [some (.ref (A 0)), some (.int (iI pl)), some (.int (iI b)), some (.int (iI 0)), some (.int (iI (i : Int))), none] [] := by
  rcases h with ⟨rfl, h1, rfl⟩ | ⟨rfl, h1, h2, rfl⟩
  · refine pp_digit hX ok (by omega) h1 ?_
    rw [show (0 : Int) * 10 + tx i - 48 = tx i - 48 by omega]
    exact k
  · refine pp_digit hX ok (by omega) (by omega) ?_
    refine pp_digit hX ok (i := i + 1) (by omega) (by omega) ?_
    rw [show ((0 : Int) * 10 + tx i - 48) * 10 + tx ((i + 1 : Nat) : Int) - 48 = 10 + tx ((i + 1 : Nat) : Int) - 48 by omega]
    exact k
theorem pp_all {X : Nat → Prop} {A : Nat → Nat} {f1 f2 : Int → Int} {b0 b1 : Int} {n : Nat} {H : Nat → Int → Int} {tx : Int → Int} {L : Nat} : ∀ (R : List (Int × Int)) {S : pS} {f : Int → Int} (_ : XS X S A f f1 f2 b0 b1 n H tx L) (_ : okX f f1 f2 b0 b1 n H) {K : Option Value → pS → Prop} {i : Nat} {pl b : Int}, Rd tx L i R → (∀ T, XS X T A (plL f R) f1 f2 b0 b1 n H tx L → frX S T (A 6) → K (some (.int (iI (pl + plN f R)))) T) → Jd yX9_playPad cX9_playPad 6 (Option.some FieldType.int) 3 0 0 K 0 0 S 9 [some (.ref (A 0)), some (.int (iI pl)), some (.int (iI b)), some (.int (iI 0)), some (.int (iI (i : Int))), none] [] := by
  intro R
  induction R with
  | nil => intro S f _ _ K i pl b h; exact absurd h id
  | cons r R ih =>
    intro S f hX ok K i pl b h hK
    obtain ⟨j, k, h1, h2, h3, h4, h5, h6⟩ := h
    have hb1 := Bd_b h1
    have hb2 := Bd_b h4
    refine pp_num hX ok h1 (by omega) ?_
    refine pp_colon hX ok h2 h3 ?_
    refine pp_num hX ok h4 h5 ?_
    rcases Classical.em (alD f r.1 r.2) with hal | hal
    · have e1 : plN f (r :: R) = 1 + plN (plF f r.1 r.2) R := if_pos hal
      have e2 : plL f (r :: R) = plL (plF f r.1 r.2) R := if_pos hal
      rw [e1, e2] at hK
      have ok' := okX_f ok (okF_pl ok.1 hb1.1 hb2.1 hal)
      rcases h6 with ⟨rfl, h7⟩ | ⟨h7, h8, h9⟩
      · refine pp_yes_e hX ok h7 hb1 hb2 hal (fun T hT fr => ?_)
        refine pp_end hT ok' (by omega) ?_
        have := hK T hT fr
        rw [show pl + (1 + plN (plF f r.1 r.2) []) = pl + 1 from by show pl + (1 + 0) = pl + 1; omega] at this
        exact this
      · refine pp_yes_c hX ok h7 h8 hb1 hb2 hal (fun T hT fr => ?_)
        refine ih hT ok' h9 (fun U hU fr2 => ?_)
        rw [Int.add_assoc]
        exact hK U hU (frX.tr fr fr2)
    · have e1 : plN f (r :: R) = 0 := if_neg hal
      have e2 : plL f (r :: R) = f := if_neg hal
      rw [e1, e2] at hK
      have := hK S hX frX.rf
      rw [Int.add_zero] at this
      rcases h6 with ⟨_, h7⟩ | ⟨h7, h8, _⟩
      · exact pp_no_e hX ok h7 hb1 hb2 hal this
      · exact pp_no_c hX ok h7 h8 hb1 hb2 hal this
set_option maxHeartbeats 1000000 in
set_option maxRecDepth 20000 in
theorem c_X9_playPad {X : Nat → Prop} {S : pS} {A : Nat → Nat} {f f1 f2 : Int → Int} {b0 b1 : Int} {n : Nat} {H : Nat → Int → Int} {tx : Int → Int} {L : Nat} (hX : XS X S A f f1 f2 b0 b1 n H tx L) (ok : okX f f1 f2 b0 b1 n H) {R : List (Int × Int)} (hRd : Rd tx L 0 R) : Ct yX9_playPad cX9_playPad 6 (Option.some FieldType.int) 3 0 0 [.ref (A 0)] S (kIS (plN f R) (fun T => XS X T A (plL f R) f1 f2 b0 b1 n H tx L ∧ frX S T (A 6))) := by
  refine Ct.ofJ (by decide +kernel) (Nat.le_of_ble_eq_true rfl) ?_
  refine J_L (L1 := [some (.ref (A 0)), none, none, none, none, none]) rfl ?_
  refine J_iconst (pc1 := 1) dX9_playPad_0 rfl ?_
  refine J_istore_n (pc1 := 2) (L1 := [some (.ref (A 0)), some (.int (iI 0)), none, none, none, none]) rfl (i := 1) dX9_playPad_1 rfl (by decide) rfl rfl ?_
  refine J_iconst (pc1 := 3) dX9_playPad_2 rfl ?_
  refine J_istore_n (pc1 := 4) (L1 := [some (.ref (A 0)), some (.int (iI 0)), some (.int (iI 0)), none, none, none]) rfl (i := 2) dX9_playPad_3 rfl (by decide) rfl rfl ?_
  refine J_iconst (pc1 := 5) dX9_playPad_4 rfl ?_
  refine J_istore_n (pc1 := 6) (L1 := [some (.ref (A 0)), some (.int (iI 0)), some (.int (iI 0)), some (.int (iI 0)), none, none]) rfl (i := 3) dX9_playPad_5 rfl (by decide) rfl rfl ?_
  refine J_iconst (pc1 := 7) dX9_playPad_6 rfl ?_
  refine J_istore (pc1 := 9) (L1 := [some (.ref (A 0)), some (.int (iI 0)), some (.int (iI 0)), some (.int (iI 0)), some (.int (iI 0)), none]) dX9_playPad_7 rfl (by decide) rfl rfl ?_
  refine J_L (L1 := [some (.ref (A 0)), some (.int (iI 0)), some (.int (iI 0)), some (.int (iI 0)), some (.int (iI ((0 : Nat) : Int))), none]) rfl ?_
  exact pp_all R hX ok hRd (fun T hT fr => ⟨by rw [Int.zero_add], hT, fr⟩)
set_option maxHeartbeats 1000000 in
set_option maxRecDepth 20000 in
theorem c_X9_run {X : Nat → Prop} {S : pS} {A : Nat → Nat} {f f1 f2 : Int → Int} {b0 b1 : Int} {n : Nat} {H : Nat → Int → Int} {tx : Int → Int} {L : Nat} (hX : XS X S A f f1 f2 b0 b1 n H tx L) (ok : okX f f1 f2 b0 b1 n H) {R : List (Int × Int)} (hX6 : X (A 6)) (hRd : dfa tx L 0 0 0 = -1006 → Rd tx L 0 R) (hdb : -2000 ≤ dfa tx L 0 0 0 ∧ dfa tx L 0 0 0 ≤ 2000) : Ct yX9_run cX9_run 2 (Option.some FieldType.int) 5 3 20 [.ref (A 0)] S (KOR (dfa tx L 0 0 0 = -1006) (-1003) (plN f R) S (fun T => XS X T A (plL f R) f1 f2 b0 b1 (kpN n) (kpH n f H) tx 0 ∧ frX S T (A 6))) := by
  obtain ⟨G, Z, O, F, mm, tb, W, e0, e1, e2, eH⟩ := id hX
  have hg : IsG S (G 0) (Z 0) (O 0) f := e0 ▸ W.2.2.1.1 0 (by omega)
  refine Ct.ofJ (by decide +kernel) (Nat.le_of_ble_eq_true rfl) ?_
  refine J_L (L1 := [some (.ref (A 0)), none]) rfl ?_
  refine J_aload_n (pc1 := 1) rfl (i := 0) rfl dX9_run_0 rfl ?_
  refine J_get (pc1 := 4) (j := 4) inUX9 (ci := 9) rfl (by decide) lf_X9_36 dX9_run_1 rfl W.1 rfl ?_
  refine J_callVI (pc1 := 7) (As := []) gv_X9_131 yv_X5_firstFault rfl (c_X5_firstFault W.2.2.2.2.2.2.1) dX9_run_4 rfl W.2.2.2.2.2.2.1.1 rfl rfl (by omega) (by decide) (by omega) (by omega) (Nat.le_of_ble_eq_true rfl) ?_
  refine J_sipush (pc1 := 10) (by decide) dX9_run_7 rfl ?_
  refine J_icmp_eq (pc1 := 13) (tgt := 17) (by omega) (by omega) (by decide) (by decide) dX9_run_10 rfl rfl (fun hc1 => ?_) (fun hc1 => ?_)
  · have hd9 : dfa tx L 0 0 0 = -1006 := by assumption
    refine J_aload_n (pc1 := 18) rfl (i := 0) rfl dX9_run_17 rfl ?_
    refine J_get (pc1 := 21) (j := 1) inUX9 (ci := 9) rfl (by decide) lf_X9_19 dX9_run_18 rfl W.1 rfl ?_
    refine J_aload_n (pc1 := 22) rfl (i := 0) rfl dX9_run_21 rfl ?_
    refine J_get (pc1 := 25) (j := 0) inUX9 (ci := 9) rfl (by decide) lf_X9_12 dX9_run_22 rfl W.1 rfl ?_
    refine J_callVNs (pc1 := 28) (As := [.ref (G 0)]) gv_X9_77 yv_X3_keepState rfl (c_X3_keepState W.2.1 W.2.2.1) dX9_run_25 rfl W.2.1.1 rfl rfl (by omega) (by decide) (by omega) (by omega) (Nat.le_of_ble_eq_true rfl) (fun T1 hK1 => ?_)
    obtain ⟨hX1, fr1⟩ := XS_keep W e0 e1 e2 eH hK1
    obtain ⟨G1, Z1, O1, F1, mm1, tb1, W1, e01, e11, e21, eH1⟩ := id hX1
    have hg1 : IsG T1 (G1 0) (Z1 0) (O1 0) f := e01 ▸ W1.2.2.1.1 0 (by omega)
    refine J_aload_n (pc1 := 29) rfl (i := 0) rfl dX9_run_28 rfl ?_
    refine J_callVIs (pc1 := 32) (As := []) gv_X9_135 yv_X9_playPad rfl (c_X9_playPad hX1 (okX_keep ok) (hRd hd9)) dX9_run_29 rfl W1.1 rfl rfl (by omega) (by decide) (by omega) (by omega) (Nat.le_of_ble_eq_true rfl) (fun T2 hT2 => ?_)
    obtain ⟨hX2, fr2⟩ := hT2
    obtain ⟨G2, Z2, O2, F2, mm2, tb2, W2, e02, e12, e22, eH2⟩ := id hX2
    have hg2 : IsG T2 (G2 0) (Z2 0) (O2 0) (plL f R) := e02 ▸ W2.2.2.1.1 0 (by omega)
    refine J_istore_n (pc1 := 33) (L1 := [some (.ref (A 0)), some (.int (iI (plN f R)))]) rfl (i := 1) dX9_run_32 rfl (by decide) rfl rfl ?_
    refine J_aload_n (pc1 := 34) rfl (i := 0) rfl dX9_run_33 rfl ?_
    refine J_get (pc1 := 37) (j := 4) inUX9 (ci := 9) rfl (by decide) lf_X9_36 dX9_run_34 rfl W2.1 rfl ?_
    refine J_callVN (pc1 := 40) (As := []) gv_X9_138 yv_X5_clear rfl (c_X5_clear W2.2.2.2.2.2.2.1) dX9_run_37 rfl W2.2.2.2.2.2.2.1.1 rfl rfl (by omega) (by decide) (by omega) (by omega) (Nat.le_of_ble_eq_true rfl) ?_
    have hwf := XW_pad (tx' := tx) (L' := 0) W2 hX6 ⟨pu_self _ _ _, (pu_ne _ _ (ne_IO W2.2.2.2.2.2.2.1.2.1 W2.2.2.2.2.2.2.1.1)).trans W2.2.2.2.2.2.2.1.2.1, Nat.zero_le _, W2.2.2.2.2.2.2.1.2.2.2⟩ (fun a a5 a6 => pu_ne T2 (oO 5 [.ref (A 6), .int (iI ((0 : Nat) : Int))]) a5)
    refine J_iload_n (pc1 := 41) rfl (i := 1) rfl dX9_run_40 rfl ?_
    exact J_iret rfl rfl dX9_run_41 (by omega) (by omega) (KOR_1 hd9 rfl ⟨⟨G2, Z2, O2, F2, mm2, tb2, hwf.1, e02, e12, e22, eH2⟩, frX.tr (frX.tr fr1 fr2) hwf.2⟩)
  · refine J_sipush (pc1 := 16) (by decide) dX9_run_13 rfl ?_
    exact J_iret rfl rfl dX9_run_16 (by omega) (by omega) (KOR_0 (by assumption) rfl)
