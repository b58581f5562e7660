/-! 22.mworld: the reference's cells, and its small methods -/
/-- the reference's object and its arrays -/
def MW (S : pS) (B : Nat → Nat) (f hs sl sv ti tx to : Int → Int) (n ik kr ks L sp nu rd : Int) : Prop :=
  S (B 0) = some (oO 10 [.ref (B 1), .ref (B 2), .int (iI n), .ref (B 3), .ref (B 4), .ref (B 5), .int (iI ik), .int (iI kr), .int (iI ks), .ref (B 6), .int (iI L), .int (iI sp), .int (iI nu), .ref (B 7), .int (iI rd)]) ∧ S (B 1) = some (aI 19 f) ∧ S (B 2) = some (aI 114 hs) ∧ S (B 3) = some (aI 38 sl) ∧ S (B 4) = some (aI 2 sv) ∧ S (B 5) = some (aI 20412 ti) ∧ S (B 6) = some (aI 60 tx) ∧ S (B 7) = some (aI 40 to)
/-- what is not the reference's stays -/
def frM (S T : pS) (B : Nat → Nat) : Prop := ∀ x, x ≠ B 0 → x ≠ B 1 → x ≠ B 2 → x ≠ B 3 → x ≠ B 4 → x ≠ B 5 → x ≠ B 6 → x ≠ B 7 → T x = S x
theorem frM.rf {S : pS} {B : Nat → Nat} : frM S S B := fun _ _ _ _ _ _ _ _ _ => rfl
theorem frM.tr {S T U : pS} {B : Nat → Nat} (h : frM S T B) (k : frM T U B) : frM S U B := fun x h0 h1 h2 h3 h4 h5 h6 h7 => (k x h0 h1 h2 h3 h4 h5 h6 h7).trans (h x h0 h1 h2 h3 h4 h5 h6 h7)
theorem i2l_i {z : Int} (h : -2147483648 ≤ z ∧ z < 2147483648) : (iI z).toInt64.toInt = z := by
  rw [Int32.toInt_toInt64]
  exact iI_to h.1 h.2
theorem lN_ti {x : Nat} (h : x < 2 ^ 63) : (lN x).toInt = (x : Int) := by
  show (lN x).toBitVec.toInt = _
  rw [lN_bv, BitVec.toInt_eq_toNat_cond, BitVec.toNat_ofNat, Nat.mod_eq_of_lt (by omega), if_pos (by omega)]
theorem lcZ_ti (a b : Int64) : (lcZ a b < 0 ↔ a.toInt < b.toInt) ∧ (0 < lcZ a b ↔ b.toInt < a.toInt) := by
  unfold lcZ
  by_cases h : b < a
  · rw [if_pos h]
    have := Int64.lt_iff_toInt_lt.mp h
    exact ⟨⟨fun q => by omega, fun q => by omega⟩, ⟨fun _ => this, fun _ => by decide⟩⟩
  · rw [if_neg h]
    have h2 : ¬ b.toInt < a.toInt := fun q => h (Int64.lt_iff_toInt_lt.mpr q)
    by_cases e : a = b
    · rw [if_pos e]
      subst e
      exact ⟨⟨fun q => by omega, fun q => by omega⟩, ⟨fun q => by omega, fun q => by omega⟩⟩
    · rw [if_neg e]
      have h3 : ¬ a.toInt = b.toInt := fun q => e (Int64.toInt_inj.mp q)
      exact ⟨⟨fun _ => by omega, fun _ => by decide⟩, ⟨fun q => by omega, fun q => absurd q h2⟩⟩
def wiE (e h : Int) : Int := if h = e then 0 else if h = -e then 1 else -1006
theorem wiE_w {e h : Int} (he : 1 ≤ e) (h1 : -e ≤ h ∧ h ≤ e) : wiE e h = winE e h := by
  unfold wiE winE
  (repeat' split) <;> omega
def tkG (ti fi b a : Int) : Int := if a < b ∨ (b = a ∧ ti = 0) then fi else 1 - fi
theorem tkG_F {f : Int → Int} {b a : Int} : tkG (f 3) (f 5) b a = tkF f b a := rfl
theorem tkG_b {ti fi b a : Int} (h : fi = 0 ∨ fi = 1) : tkG ti fi b a = 0 ∨ tkG ti fi b a = 1 := by unfold tkG; split <;> omega
def atF (p h one ot fi : Int) : Int := ((p * 7 + h + 3) * 729 + (27 * (one + 2) + ot + 2)) * 2 + fi
def pyG (ti fi b a : Int) : Int := if tkG ti fi b a = fi then b else a
/-- the place behind a round -/
def bhF (ti ps p h one ot fi b a : Int) : Int :=
  if tkG ti fi b a = 0 then atF p (h + 1) (one - pyG ti fi b a) (ot + gaE ps (pyG ti fi b a)) (1 - fi) else atF p (h - 1) (one + gaE ps (pyG ti fi b a)) (ot - pyG ti fi b a) (1 - fi)
def okS (s v : Int) : Prop := (0 ≤ s ∧ s ≤ 3) ∧ (if s = 0 then 1 else 0) ≤ v ∧ v ≤ (if s = 0 then 3 else if s = 1 then 2 else 1)
set_option maxHeartbeats 400000 in
set_option maxRecDepth 20000 in
theorem c_X10_in {S : pS} {x a b : Int64} {v lo hi : Int} (hx : x.toInt = v) (ha : a.toInt = lo) (hb : b.toInt = hi) : Ct yX10_in cX10_in 6 (Option.some FieldType.boolean) 0 0 0 [.long x, .long a, .long b] S (kI (bC (lo ≤ v ∧ v ≤ hi)) S) := by
  have q1 := lcZ_b x a
  have q2 := lcZ_b x b
  have q3 := (lcZ_ti x a).1
  have q4 := (lcZ_ti x b).2
  rw [hx, ha] at q3
  rw [hx, hb] at q4
  refine Ct.ofJ (by decide +kernel) (Nat.le_of_ble_eq_true rfl) ?_
  refine J_L (L1 := [some (.long x), none, some (.long a), none, some (.long b), none]) rfl ?_
  refine J_lload_n (pc1 := 1) rfl (i := 0) rfl dX10_in_0 rfl ?_
  refine J_lload_n (pc1 := 2) rfl (i := 2) rfl dX10_in_1 rfl ?_
  refine J_lcmpZ (pc1 := 3) dX10_in_2 rfl ?_
  refine J_if_lt (pc1 := 6) (tgt := 17) (by omega) (by omega) dX10_in_3 rfl rfl (fun hc1 => ?_) (fun hc1 => ?_)
  · refine J_iconst (pc1 := 18) dX10_in_17 rfl ?_
    exact J_iret rfl rfl dX10_in_18 (Nat.le_refl _) (Nat.le_refl _) (kI_mk (by first | exact (bC_t (by omega)).symm | exact (bC_f (by omega)).symm))
  · refine J_lload_n (pc1 := 7) rfl (i := 0) rfl dX10_in_6 rfl ?_
    refine J_lload (pc1 := 9) rfl dX10_in_7 rfl ?_
    refine J_lcmpZ (pc1 := 10) dX10_in_9 rfl ?_
    refine J_if_gt (pc1 := 13) (tgt := 17) (by omega) (by omega) dX10_in_10 rfl rfl (fun hc2 => ?_) (fun hc2 => ?_)
    · refine J_iconst (pc1 := 18) dX10_in_17 rfl ?_
      exact J_iret rfl rfl dX10_in_18 (Nat.le_refl _) (Nat.le_refl _) (kI_mk (by first | exact (bC_t (by omega)).symm | exact (bC_f (by omega)).symm))
    · refine J_iconst (pc1 := 14) dX10_in_13 rfl ?_
      refine J_goto (tgt := 18) dX10_in_14 rfl ?_
      exact J_iret rfl rfl dX10_in_18 (Nat.le_refl _) (Nat.le_refl _) (kI_mk (by first | exact (bC_t (by omega)).symm | exact (bC_f (by omega)).symm))
set_option maxHeartbeats 400000 in
set_option maxRecDepth 20000 in
theorem c_X10_isPlayer {S : pS} {p : Int} (hp : -2147483648 ≤ p ∧ p < 2147483648) : Ct yX10_isPlayer cX10_isPlayer 1 (Option.some FieldType.boolean) 0 0 0 [.int (iI p)] S (kI (bC (p = 0 ∨ p = 1)) S) := by
  refine Ct.ofJ (by decide +kernel) (Nat.le_of_ble_eq_true rfl) ?_
  refine J_L (L1 := [some (.int (iI p))]) rfl ?_
  refine J_iload_n (pc1 := 1) rfl (i := 0) rfl dX10_isPlayer_0 rfl ?_
  refine J_if_eq (pc1 := 4) (tgt := 9) (by omega) (by omega) dX10_isPlayer_1 rfl rfl (fun hc1 => ?_) (fun hc1 => ?_)
  · refine J_iconst (pc1 := 10) dX10_isPlayer_9 rfl ?_
    refine J_goto (tgt := 14) dX10_isPlayer_10 rfl ?_
    exact J_iret rfl rfl dX10_isPlayer_14 (Nat.le_refl _) (Nat.le_refl _) (kI_mk (by first | exact (bC_t (by omega)).symm | exact (bC_f (by omega)).symm))
  · refine J_iload_n (pc1 := 5) rfl (i := 0) rfl dX10_isPlayer_4 rfl ?_
    refine J_iconst (pc1 := 6) dX10_isPlayer_5 rfl ?_
    refine J_icmp_ne (pc1 := 9) (tgt := 13) (by omega) (by omega) (by decide) (by decide) dX10_isPlayer_6 rfl rfl (fun hc2 => ?_) (fun hc2 => ?_)
    · refine J_iconst (pc1 := 14) dX10_isPlayer_13 rfl ?_
      exact J_iret rfl rfl dX10_isPlayer_14 (Nat.le_refl _) (Nat.le_refl _) (kI_mk (by first | exact (bC_t (by omega)).symm | exact (bC_f (by omega)).symm))
    · refine J_iconst (pc1 := 10) dX10_isPlayer_9 rfl ?_
      refine J_goto (tgt := 14) dX10_isPlayer_10 rfl ?_
      exact J_iret rfl rfl dX10_isPlayer_14 (Nat.le_refl _) (Nat.le_refl _) (kI_mk (by first | exact (bC_t (by omega)).symm | exact (bC_f (by omega)).symm))
set_option maxHeartbeats 400000 in
set_option maxRecDepth 20000 in
theorem c_X10_isSetting {S : pS} {s v : Int} (hs : -2147483648 ≤ s ∧ s < 2147483648) (hv : -2147483648 ≤ v ∧ v < 2147483648) : Ct yX10_isSetting cX10_isSetting 2 (Option.some FieldType.boolean) 1 0 0 [.int (iI s), .int (iI v)] S (kI (bC (okS s v)) S) := by
  refine Ct.ofJ (by decide +kernel) (Nat.le_of_ble_eq_true rfl) ?_
  refine J_L (L1 := [some (.int (iI s)), some (.int (iI v))]) rfl ?_
  refine J_iload_n (pc1 := 1) rfl (i := 0) rfl dX10_isSetting_0 rfl ?_
  rcases (show s = 0 ∨ s = 1 ∨ s = 2 ∨ s = 3 ∨ (s < 0 ∨ 3 < s) by omega) with hs1 | hs1 | hs1 | hs1 | hs1
  · refine J_tableIn (tgt := 32) (by omega) (by omega) dX10_isSetting_1 (by omega) (by omega) (by rw [hs1]; rfl) rfl ?_
    refine J_iload_n (pc1 := 33) rfl (i := 1) rfl dX10_isSetting_32 rfl ?_
    refine J_i2l (pc1 := 34) dX10_isSetting_33 rfl ?_
    refine J_lconst (pc1 := 35) (v := 1) (by decide) dX10_isSetting_34 rfl ?_
    refine J_ldc2 (pc1 := 38) lq_X10_93 dX10_isSetting_35 rfl ?_
    refine J_callSI (pc1 := 41) (As := [.long (iI v).toInt64, .long 1, .long (3 : Int64)]) gs_X10_95 yv_X10_in (c_X10_in (v := v) (lo := 1) (hi := 3) (i2l_i (by omega)) (by decide) (by decide)) dX10_isSetting_38 rfl rfl rfl (by omega) (by decide) (by omega) (by omega) (Nat.le_of_ble_eq_true rfl) ?_
    exact J_iret rfl (nar_bC _) dX10_isSetting_41 (Nat.le_refl _) (Nat.le_refl _) (kI_mk (bC_c (by unfold okS; (repeat' split) <;> omega)))
  · refine J_tableIn (tgt := 42) (by omega) (by omega) dX10_isSetting_1 (by omega) (by omega) (by rw [hs1]; rfl) rfl ?_
    refine J_iload_n (pc1 := 43) rfl (i := 1) rfl dX10_isSetting_42 rfl ?_
    refine J_i2l (pc1 := 44) dX10_isSetting_43 rfl ?_
    refine J_lconst (pc1 := 45) (v := 0) (by decide) dX10_isSetting_44 rfl ?_
    refine J_ldc2 (pc1 := 48) lq_X10_99 dX10_isSetting_45 rfl ?_
    refine J_callSI (pc1 := 51) (As := [.long (iI v).toInt64, .long 0, .long (2 : Int64)]) gs_X10_95 yv_X10_in (c_X10_in (v := v) (lo := 0) (hi := 2) (i2l_i (by omega)) (by decide) (by decide)) dX10_isSetting_48 rfl rfl rfl (by omega) (by decide) (by omega) (by omega) (Nat.le_of_ble_eq_true rfl) ?_
    exact J_iret rfl (nar_bC _) dX10_isSetting_51 (Nat.le_refl _) (Nat.le_refl _) (kI_mk (bC_c (by unfold okS; (repeat' split) <;> omega)))
  · refine J_tableIn (tgt := 52) (by omega) (by omega) dX10_isSetting_1 (by omega) (by omega) (by rw [hs1]; rfl) rfl ?_
    refine J_iload_n (pc1 := 53) rfl (i := 1) rfl dX10_isSetting_52 rfl ?_
    refine J_i2l (pc1 := 54) dX10_isSetting_53 rfl ?_
    refine J_lconst (pc1 := 55) (v := 0) (by decide) dX10_isSetting_54 rfl ?_
    refine J_lconst (pc1 := 56) (v := 1) (by decide) dX10_isSetting_55 rfl ?_
    refine J_callSI (pc1 := 59) (As := [.long (iI v).toInt64, .long 0, .long 1]) gs_X10_95 yv_X10_in (c_X10_in (v := v) (lo := 0) (hi := 1) (i2l_i (by omega)) (by decide) (by decide)) dX10_isSetting_56 rfl rfl rfl (by omega) (by decide) (by omega) (by omega) (Nat.le_of_ble_eq_true rfl) ?_
    exact J_iret rfl (nar_bC _) dX10_isSetting_59 (Nat.le_refl _) (Nat.le_refl _) (kI_mk (bC_c (by unfold okS; (repeat' split) <;> omega)))
  · refine J_tableIn (tgt := 52) (by omega) (by omega) dX10_isSetting_1 (by omega) (by omega) (by rw [hs1]; rfl) rfl ?_
    refine J_iload_n (pc1 := 53) rfl (i := 1) rfl dX10_isSetting_52 rfl ?_
    refine J_i2l (pc1 := 54) dX10_isSetting_53 rfl ?_
    refine J_lconst (pc1 := 55) (v := 0) (by decide) dX10_isSetting_54 rfl ?_
    refine J_lconst (pc1 := 56) (v := 1) (by decide) dX10_isSetting_55 rfl ?_
    refine J_callSI (pc1 := 59) (As := [.long (iI v).toInt64, .long 0, .long 1]) gs_X10_95 yv_X10_in (c_X10_in (v := v) (lo := 0) (hi := 1) (i2l_i (by omega)) (by decide) (by decide)) dX10_isSetting_56 rfl rfl rfl (by omega) (by decide) (by omega) (by omega) (Nat.le_of_ble_eq_true rfl) ?_
    exact J_iret rfl (nar_bC _) dX10_isSetting_59 (Nat.le_refl _) (Nat.le_refl _) (kI_mk (bC_c (by unfold okS; (repeat' split) <;> omega)))
  · refine J_tableOut (tgt := 60) (by omega) (by omega) dX10_isSetting_1 hs1 rfl ?_
    refine J_iconst (pc1 := 61) dX10_isSetting_60 rfl ?_
    exact J_iret rfl rfl dX10_isSetting_61 (Nat.le_refl _) (Nat.le_refl _) (kI_mk (bC_f (by unfold okS; omega)).symm)
set_option maxHeartbeats 400000 in
set_option maxRecDepth 20000 in
theorem c_X10_winnerAt {S : pS} {B : Nat → Nat} {f hs sl sv ti tx to : Int → Int} {n ik kr ks L sp nu rd : Int} (W : MW S B f hs sl sv ti tx to n ik kr ks L sp nu rd) {h : Int} (he : 0 ≤ f 0 ∧ f 0 ≤ 1000) (hh : -1000 ≤ h ∧ h ≤ 1000) : Ct yX10_winnerAt cX10_winnerAt 2 (Option.some FieldType.int) 0 0 0 [.ref (B 0), .int (iI h)] S (kI (wiE (f 0) h) S) := by
  refine Ct.ofJ (by decide +kernel) (Nat.le_of_ble_eq_true rfl) ?_
  refine J_L (L1 := [some (.ref (B 0)), some (.int (iI h))]) rfl ?_
  refine J_iload_n (pc1 := 1) rfl (i := 1) rfl dX10_winnerAt_0 rfl ?_
  refine J_aload_n (pc1 := 2) rfl (i := 0) rfl dX10_winnerAt_1 rfl ?_
  refine J_get (pc1 := 5) (j := 0) inUX10 (ci := 10) rfl (by decide) lf_X10_7 dX10_winnerAt_2 rfl W.1 rfl ?_
  refine J_iconst (pc1 := 6) dX10_winnerAt_5 rfl ?_
  refine J_iald (pc1 := 7) dX10_winnerAt_6 rfl W.2.1 (by omega) (by omega) (by omega) ?_
  refine J_icmp_ne (pc1 := 10) (tgt := 14) (by omega) (by omega) (by omega) (by omega) dX10_winnerAt_7 rfl rfl (fun hc1 => ?_) (fun hc1 => ?_)
  · refine J_iload_n (pc1 := 15) rfl (i := 1) rfl dX10_winnerAt_14 rfl ?_
    refine J_aload_n (pc1 := 16) rfl (i := 0) rfl dX10_winnerAt_15 rfl ?_
    refine J_get (pc1 := 19) (j := 0) inUX10 (ci := 10) rfl (by decide) lf_X10_7 dX10_winnerAt_16 rfl W.1 rfl ?_
    refine J_iconst (pc1 := 20) dX10_winnerAt_19 rfl ?_
    refine J_iald (pc1 := 21) dX10_winnerAt_20 rfl W.2.1 (by omega) (by omega) (by omega) ?_
    refine J_ineg (pc1 := 22) dX10_winnerAt_21 rfl ?_
    refine J_icmp_ne (pc1 := 25) (tgt := 29) (by omega) (by omega) (by omega) (by omega) dX10_winnerAt_22 rfl rfl (fun hc2 => ?_) (fun hc2 => ?_)
    · refine J_sipush (pc1 := 32) (by decide) dX10_winnerAt_29 rfl ?_
      exact J_iret rfl rfl dX10_winnerAt_32 (Nat.le_refl _) (Nat.le_refl _) (kI_mk (by unfold wiE; (repeat' split) <;> omega))
    · refine J_iconst (pc1 := 26) dX10_winnerAt_25 rfl ?_
      refine J_goto (tgt := 32) dX10_winnerAt_26 rfl ?_
      exact J_iret rfl rfl dX10_winnerAt_32 (Nat.le_refl _) (Nat.le_refl _) (kI_mk (by unfold wiE; (repeat' split) <;> omega))
  · refine J_iconst (pc1 := 11) dX10_winnerAt_10 rfl ?_
    refine J_goto (tgt := 32) dX10_winnerAt_11 rfl ?_
    exact J_iret rfl rfl dX10_winnerAt_32 (Nat.le_refl _) (Nat.le_refl _) (kI_mk (by unfold wiE; (repeat' split) <;> omega))
theorem wiE_b (e h : Int) : wiE e h = 0 ∨ wiE e h = 1 ∨ wiE e h = -1006 := by unfold wiE; (repeat' split) <;> omega
theorem wiE_okF {f : Int → Int} (ok : okF f) : wiE (f 0) (f 4) = winF f := wiE_w (by have := ok.1; omega) (by have := ok.2.2.2.2.1; omega)
set_option maxHeartbeats 400000 in
set_option maxRecDepth 20000 in
theorem c_X10_isOver {S : pS} {B : Nat → Nat} {f hs sl sv ti tx to : Int → Int} {n ik kr ks L sp nu rd : Int} (W : MW S B f hs sl sv ti tx to n ik kr ks L sp nu rd) (ok : okF f) : Ct yX10_isOver cX10_isOver 1 (Option.some FieldType.boolean) 1 0 0 [.ref (B 0)] S (kI (bZ (winE (f 0) (f 4) ≠ -1006)) S) := by
  have hw := wiE_okF ok
  have hw2 : winF f = winE (f 0) (f 4) := rfl
  have hw3 := wiE_b (f 0) (f 4)
  obtain ⟨o0, o1, o2, o3, o4, o5, o7, o9, o10, o12, o13, -⟩ := ok
  refine Ct.ofJ (by decide +kernel) (Nat.le_of_ble_eq_true rfl) ?_
  refine J_L (L1 := [some (.ref (B 0))]) rfl ?_
  refine J_aload_n (pc1 := 1) rfl (i := 0) rfl dX10_isOver_0 rfl ?_
  refine J_aload_n (pc1 := 2) rfl (i := 0) rfl dX10_isOver_1 rfl ?_
  refine J_get (pc1 := 5) (j := 0) inUX10 (ci := 10) rfl (by decide) lf_X10_7 dX10_isOver_2 rfl W.1 rfl ?_
  refine J_iconst (pc1 := 6) dX10_isOver_5 rfl ?_
  refine J_iald (pc1 := 7) dX10_isOver_6 rfl W.2.1 (by omega) (by omega) (by omega) ?_
  refine J_callVI (pc1 := 10) (As := [.int (iI (f 4))]) gv_X10_38 yv_X10_winnerAt rfl (c_X10_winnerAt ⟨W.1, W.2.1, W.2.2.1, W.2.2.2.1, W.2.2.2.2.1, W.2.2.2.2.2.1, W.2.2.2.2.2.2.1, W.2.2.2.2.2.2.2⟩ (h := f 4) (by omega) (by omega)) dX10_isOver_7 rfl W.1 rfl rfl (by omega) (by decide) (by omega) (by omega) (Nat.le_of_ble_eq_true rfl) ?_
  refine J_sipush (pc1 := 13) (by decide) dX10_isOver_10 rfl ?_
  refine J_icmp_eq (pc1 := 16) (tgt := 20) (by omega) (by omega) (by decide) (by decide) dX10_isOver_13 rfl rfl (fun hc1 => ?_) (fun hc1 => ?_)
  · refine J_iconst (pc1 := 21) dX10_isOver_20 rfl ?_
    exact J_iret rfl rfl dX10_isOver_21 (Nat.le_refl _) (Nat.le_refl _) (kI_mk (by first | exact bZ_t (by omega) | exact bZ_f (by omega)))
  · refine J_iconst (pc1 := 17) dX10_isOver_16 rfl ?_
    refine J_goto (tgt := 21) dX10_isOver_17 rfl ?_
    exact J_iret rfl rfl dX10_isOver_21 (Nat.le_refl _) (Nat.le_refl _) (kI_mk (by first | exact bZ_t (by omega) | exact bZ_f (by omega)))
set_option maxHeartbeats 400000 in
set_option maxRecDepth 20000 in
theorem c_X10_most0 {S : pS} {B : Nat → Nat} {f hs sl sv ti tx to : Int → Int} {n ik kr ks L sp nu rd : Int} (W : MW S B f hs sl sv ti tx to n ik kr ks L sp nu rd) : Ct yX10_most cX10_most 2 (Option.some FieldType.int) 0 0 0 [.ref (B 0), .int (iI 0)] S (kI (f 7 + f 1) S) := by
  refine Ct.ofJ (by decide +kernel) (Nat.le_of_ble_eq_true rfl) ?_
  refine J_L (L1 := [some (.ref (B 0)), some (.int (iI 0))]) rfl ?_
  refine J_aload_n (pc1 := 1) rfl (i := 0) rfl dX10_most_0 rfl ?_
  refine J_get (pc1 := 4) (j := 0) inUX10 (ci := 10) rfl (by decide) lf_X10_7 dX10_most_1 rfl W.1 rfl ?_
  refine J_bipush (pc1 := 6) (by decide) dX10_most_4 rfl ?_
  refine J_iload_n (pc1 := 7) rfl (i := 1) rfl dX10_most_6 rfl ?_
  refine J_iaddE (pc1 := 8) (z := 7) (by decide) dX10_most_7 rfl ?_
  refine J_iald (pc1 := 9) dX10_most_8 rfl W.2.1 (by omega) (by omega) (by omega) ?_
  refine J_aload_n (pc1 := 10) rfl (i := 0) rfl dX10_most_9 rfl ?_
  refine J_get (pc1 := 13) (j := 0) inUX10 (ci := 10) rfl (by decide) lf_X10_7 dX10_most_10 rfl W.1 rfl ?_
  refine J_iconst (pc1 := 14) dX10_most_13 rfl ?_
  refine J_iald (pc1 := 15) dX10_most_14 rfl W.2.1 (by omega) (by omega) (by omega) ?_
  refine J_iadd (pc1 := 16) dX10_most_15 rfl ?_
  exact J_iret rfl rfl dX10_most_16 (Nat.le_refl _) (Nat.le_refl _) (kI_mk rfl)
set_option maxHeartbeats 400000 in
set_option maxRecDepth 20000 in
theorem c_X10_most1 {S : pS} {B : Nat → Nat} {f hs sl sv ti tx to : Int → Int} {n ik kr ks L sp nu rd : Int} (W : MW S B f hs sl sv ti tx to n ik kr ks L sp nu rd) : Ct yX10_most cX10_most 2 (Option.some FieldType.int) 0 0 0 [.ref (B 0), .int (iI 1)] S (kI (f 8 + f 1) S) := by
  refine Ct.ofJ (by decide +kernel) (Nat.le_of_ble_eq_true rfl) ?_
  refine J_L (L1 := [some (.ref (B 0)), some (.int (iI 1))]) rfl ?_
  refine J_aload_n (pc1 := 1) rfl (i := 0) rfl dX10_most_0 rfl ?_
  refine J_get (pc1 := 4) (j := 0) inUX10 (ci := 10) rfl (by decide) lf_X10_7 dX10_most_1 rfl W.1 rfl ?_
  refine J_bipush (pc1 := 6) (by decide) dX10_most_4 rfl ?_
  refine J_iload_n (pc1 := 7) rfl (i := 1) rfl dX10_most_6 rfl ?_
  refine J_iaddE (pc1 := 8) (z := 8) (by decide) dX10_most_7 rfl ?_
  refine J_iald (pc1 := 9) dX10_most_8 rfl W.2.1 (by omega) (by omega) (by omega) ?_
  refine J_aload_n (pc1 := 10) rfl (i := 0) rfl dX10_most_9 rfl ?_
  refine J_get (pc1 := 13) (j := 0) inUX10 (ci := 10) rfl (by decide) lf_X10_7 dX10_most_10 rfl W.1 rfl ?_
  refine J_iconst (pc1 := 14) dX10_most_13 rfl ?_
  refine J_iald (pc1 := 15) dX10_most_14 rfl W.2.1 (by omega) (by omega) (by omega) ?_
  refine J_iadd (pc1 := 16) dX10_most_15 rfl ?_
  exact J_iret rfl rfl dX10_most_16 (Nat.le_refl _) (Nat.le_refl _) (kI_mk rfl)
theorem c_X10_most {S : pS} {B : Nat → Nat} {f hs sl sv ti tx to : Int → Int} {n ik kr ks L sp nu rd : Int} (W : MW S B f hs sl sv ti tx to n ik kr ks L sp nu rd) {p : Int} (hp : p = 0 ∨ p = 1) : Ct yX10_most cX10_most 2 (Option.some FieldType.int) 0 0 0 [.ref (B 0), .int (iI p)] S (kI (moF f p) S) := by
  rcases hp with rfl | rfl
  · exact c_X10_most0 W
  · exact c_X10_most1 W
set_option maxHeartbeats 400000 in
set_option maxRecDepth 20000 in
theorem c_X10_lowest {S : pS} {B : Nat → Nat} {f hs sl sv ti tx to : Int → Int} {n ik kr ks L sp nu rd : Int} (W : MW S B f hs sl sv ti tx to n ik kr ks L sp nu rd) : Ct yX10_lowest cX10_lowest 1 (Option.some FieldType.int) 0 0 0 [.ref (B 0)] S (kI (-f 1) S) := by
  refine Ct.ofJ (by decide +kernel) (Nat.le_of_ble_eq_true rfl) ?_
  refine J_L (L1 := [some (.ref (B 0))]) rfl ?_
  refine J_aload_n (pc1 := 1) rfl (i := 0) rfl dX10_lowest_0 rfl ?_
  refine J_get (pc1 := 4) (j := 0) inUX10 (ci := 10) rfl (by decide) lf_X10_7 dX10_lowest_1 rfl W.1 rfl ?_
  refine J_iconst (pc1 := 5) dX10_lowest_4 rfl ?_
  refine J_iald (pc1 := 6) dX10_lowest_5 rfl W.2.1 (by omega) (by omega) (by omega) ?_
  refine J_ineg (pc1 := 7) dX10_lowest_6 rfl ?_
  exact J_iret rfl rfl dX10_lowest_7 (Nat.le_refl _) (Nat.le_refl _) (kI_mk rfl)
set_option maxHeartbeats 400000 in
set_option maxRecDepth 20000 in
theorem c_X10_taker {S : pS} {B : Nat → Nat} {f hs sl sv ti tx to : Int → Int} {n ik kr ks L sp nu rd : Int} (W : MW S B f hs sl sv ti tx to n ik kr ks L sp nu rd) {fi b a : Int} (h3 : f 3 = 0 ∨ f 3 = 1) (hb : -1000 ≤ b ∧ b ≤ 1000) (ha : -1000 ≤ a ∧ a ≤ 1000) : Ct yX10_taker cX10_taker 4 (Option.some FieldType.int) 0 0 0 [.ref (B 0), .int (iI fi), .int (iI b), .int (iI a)] S (kI (tkG (f 3) fi b a) S) := by
  refine Ct.ofJ (by decide +kernel) (Nat.le_of_ble_eq_true rfl) ?_
  refine J_L (L1 := [some (.ref (B 0)), some (.int (iI fi)), some (.int (iI b)), some (.int (iI a))]) rfl ?_
  refine J_iload_n (pc1 := 1) rfl (i := 2) rfl dX10_taker_0 rfl ?_
  refine J_iload_n (pc1 := 2) rfl (i := 3) rfl dX10_taker_1 rfl ?_
  refine J_icmp_gt (pc1 := 5) (tgt := 19) (by omega) (by omega) (by omega) (by omega) dX10_taker_2 rfl rfl (fun hc1 => ?_) (fun hc1 => ?_)
  · refine J_iload_n (pc1 := 20) rfl (i := 1) rfl dX10_taker_19 rfl ?_
    refine J_goto (tgt := 26) dX10_taker_20 rfl ?_
    exact J_iret rfl rfl dX10_taker_26 (Nat.le_refl _) (Nat.le_refl _) (kI_mk (by unfold tkG; (repeat' split) <;> omega))
  · refine J_iload_n (pc1 := 6) rfl (i := 2) rfl dX10_taker_5 rfl ?_
    refine J_iload_n (pc1 := 7) rfl (i := 3) rfl dX10_taker_6 rfl ?_
    refine J_icmp_ne (pc1 := 10) (tgt := 23) (by omega) (by omega) (by omega) (by omega) dX10_taker_7 rfl rfl (fun hc2 => ?_) (fun hc2 => ?_)
    · refine J_iconst (pc1 := 24) dX10_taker_23 rfl ?_
      refine J_iload_n (pc1 := 25) rfl (i := 1) rfl dX10_taker_24 rfl ?_
      refine J_isub (pc1 := 26) dX10_taker_25 rfl ?_
      exact J_iret rfl rfl dX10_taker_26 (Nat.le_refl _) (Nat.le_refl _) (kI_mk (by unfold tkG; (repeat' split) <;> omega))
    · refine J_aload_n (pc1 := 11) rfl (i := 0) rfl dX10_taker_10 rfl ?_
      refine J_get (pc1 := 14) (j := 0) inUX10 (ci := 10) rfl (by decide) lf_X10_7 dX10_taker_11 rfl W.1 rfl ?_
      refine J_iconst (pc1 := 15) dX10_taker_14 rfl ?_
      refine J_iald (pc1 := 16) dX10_taker_15 rfl W.2.1 (by omega) (by omega) (by omega) ?_
      refine J_if_ne (pc1 := 19) (tgt := 23) (by omega) (by omega) dX10_taker_16 rfl rfl (fun hc3 => ?_) (fun hc3 => ?_)
      · refine J_iconst (pc1 := 24) dX10_taker_23 rfl ?_
        refine J_iload_n (pc1 := 25) rfl (i := 1) rfl dX10_taker_24 rfl ?_
        refine J_isub (pc1 := 26) dX10_taker_25 rfl ?_
        exact J_iret rfl rfl dX10_taker_26 (Nat.le_refl _) (Nat.le_refl _) (kI_mk (by unfold tkG; (repeat' split) <;> omega))
      · refine J_iload_n (pc1 := 20) rfl (i := 1) rfl dX10_taker_19 rfl ?_
        refine J_goto (tgt := 26) dX10_taker_20 rfl ?_
        exact J_iret rfl rfl dX10_taker_26 (Nat.le_refl _) (Nat.le_refl _) (kI_mk (by unfold tkG; (repeat' split) <;> omega))
set_option maxHeartbeats 400000 in
set_option maxRecDepth 20000 in
theorem c_X10_canPlay {S : pS} {B : Nat → Nat} {f hs sl sv ti tx to : Int → Int} {n ik kr ks L sp nu rd : Int} (W : MW S B f hs sl sv ti tx to n ik kr ks L sp nu rd) (ok : okF f) {b a : Int} (hb : -1000 ≤ b ∧ b ≤ 1000) (ha : -1000 ≤ a ∧ a ≤ 1000) : Ct yX10_canPlay cX10_canPlay 3 (Option.some FieldType.boolean) 2 0 0 [.ref (B 0), .int (iI b), .int (iI a)] S (kI (bZ (winF f = -1006 ∧ b ≤ moF f (f 5) ∧ a ≤ moF f (1 - f 5))) S) := by
  have q1 := bZ_lo (winE (f 0) (f 4) ≠ -1006)
  have q2 := bZ_hi (winE (f 0) (f 4) ≠ -1006)
  have q3 := moF_b (p := f 5) ok
  have q4 := moF_b (p := 1 - f 5) ok
  have ok := ok
  obtain ⟨o0, o1, o2, o3, o4, o5, o7, o9, o10, o12, o13, -⟩ := id ok
  refine Ct.ofJ (by decide +kernel) (Nat.le_of_ble_eq_true rfl) ?_
  refine J_L (L1 := [some (.ref (B 0)), some (.int (iI b)), some (.int (iI a))]) rfl ?_
  refine J_aload_n (pc1 := 1) rfl (i := 0) rfl dX10_canPlay_0 rfl ?_
  refine J_callVI (pc1 := 4) (As := []) gv_X10_46 yv_X10_isOver rfl (c_X10_isOver ⟨W.1, W.2.1, W.2.2.1, W.2.2.2.1, W.2.2.2.2.1, W.2.2.2.2.2.1, W.2.2.2.2.2.2.1, W.2.2.2.2.2.2.2⟩ ok) dX10_canPlay_1 rfl W.1 rfl rfl (by omega) (by decide) (by omega) (by omega) (Nat.le_of_ble_eq_true rfl) ?_
  refine J_if_ne (pc1 := 7) (tgt := 41) (bZ_lo _) (bZ_hi _) dX10_canPlay_4 rfl rfl (fun hc1 => ?_) (fun hc1 => ?_)
  · refine J_iconst (pc1 := 42) dX10_canPlay_41 rfl ?_
    exact J_iret rfl rfl dX10_canPlay_42 (Nat.le_refl _) (Nat.le_refl _) (kI_mk (by first | exact bZ_t ⟨Decidable.byContradiction (bZ_0 (by assumption)), by omega, by omega⟩ | exact bZ_f (fun q => by first | exact absurd q.1 (bZ_1 (by assumption)) | omega)))
  · refine J_iload_n (pc1 := 8) rfl (i := 1) rfl dX10_canPlay_7 rfl ?_
    refine J_aload_n (pc1 := 9) rfl (i := 0) rfl dX10_canPlay_8 rfl ?_
    refine J_aload_n (pc1 := 10) rfl (i := 0) rfl dX10_canPlay_9 rfl ?_
    refine J_get (pc1 := 13) (j := 0) inUX10 (ci := 10) rfl (by decide) lf_X10_7 dX10_canPlay_10 rfl W.1 rfl ?_
    refine J_iconst (pc1 := 14) dX10_canPlay_13 rfl ?_
    refine J_iald (pc1 := 15) dX10_canPlay_14 rfl W.2.1 (by omega) (by omega) (by omega) ?_
    refine J_callVI (pc1 := 18) (As := [.int (iI (f 5))]) gv_X10_50 yv_X10_most rfl (c_X10_most ⟨W.1, W.2.1, W.2.2.1, W.2.2.2.1, W.2.2.2.2.1, W.2.2.2.2.2.1, W.2.2.2.2.2.2.1, W.2.2.2.2.2.2.2⟩ (p := f 5) (by omega)) dX10_canPlay_15 rfl W.1 rfl rfl (by omega) (by decide) (by omega) (by omega) (Nat.le_of_ble_eq_true rfl) ?_
    refine J_icmp_gt (pc1 := 21) (tgt := 41) (by omega) (by omega) (by omega) (by omega) dX10_canPlay_18 rfl rfl (fun hc2 => ?_) (fun hc2 => ?_)
    · refine J_iconst (pc1 := 42) dX10_canPlay_41 rfl ?_
      exact J_iret rfl rfl dX10_canPlay_42 (Nat.le_refl _) (Nat.le_refl _) (kI_mk (by first | exact bZ_t ⟨Decidable.byContradiction (bZ_0 (by assumption)), by omega, by omega⟩ | exact bZ_f (fun q => by first | exact absurd q.1 (bZ_1 (by assumption)) | omega)))
    · refine J_iload_n (pc1 := 22) rfl (i := 2) rfl dX10_canPlay_21 rfl ?_
      refine J_aload_n (pc1 := 23) rfl (i := 0) rfl dX10_canPlay_22 rfl ?_
      refine J_iconst (pc1 := 24) dX10_canPlay_23 rfl ?_
      refine J_aload_n (pc1 := 25) rfl (i := 0) rfl dX10_canPlay_24 rfl ?_
      refine J_get (pc1 := 28) (j := 0) inUX10 (ci := 10) rfl (by decide) lf_X10_7 dX10_canPlay_25 rfl W.1 rfl ?_
      refine J_iconst (pc1 := 29) dX10_canPlay_28 rfl ?_
      refine J_iald (pc1 := 30) dX10_canPlay_29 rfl W.2.1 (by omega) (by omega) (by omega) ?_
      refine J_isub (pc1 := 31) dX10_canPlay_30 rfl ?_
      refine J_callVI (pc1 := 34) (As := [.int (iI (1 - (f 5)))]) gv_X10_50 yv_X10_most rfl (c_X10_most ⟨W.1, W.2.1, W.2.2.1, W.2.2.2.1, W.2.2.2.2.1, W.2.2.2.2.2.1, W.2.2.2.2.2.2.1, W.2.2.2.2.2.2.2⟩ (p := 1 - (f 5)) (by omega)) dX10_canPlay_31 rfl W.1 rfl rfl (by omega) (by decide) (by omega) (by omega) (Nat.le_of_ble_eq_true rfl) ?_
      refine J_icmp_gt (pc1 := 37) (tgt := 41) (by omega) (by omega) (by omega) (by omega) dX10_canPlay_34 rfl rfl (fun hc3 => ?_) (fun hc3 => ?_)
      · refine J_iconst (pc1 := 42) dX10_canPlay_41 rfl ?_
        exact J_iret rfl rfl dX10_canPlay_42 (Nat.le_refl _) (Nat.le_refl _) (kI_mk (by first | exact bZ_t ⟨Decidable.byContradiction (bZ_0 (by assumption)), by omega, by omega⟩ | exact bZ_f (fun q => by first | exact absurd q.1 (bZ_1 (by assumption)) | omega)))
      · refine J_iconst (pc1 := 38) dX10_canPlay_37 rfl ?_
        refine J_goto (tgt := 42) dX10_canPlay_38 rfl ?_
        exact J_iret rfl rfl dX10_canPlay_42 (Nat.le_refl _) (Nat.le_refl _) (kI_mk (by first | exact bZ_t ⟨Decidable.byContradiction (bZ_0 (by assumption)), by omega, by omega⟩ | exact bZ_f (fun q => by first | exact absurd q.1 (bZ_1 (by assumption)) | omega)))
set_option maxHeartbeats 400000 in
set_option maxRecDepth 20000 in
theorem c_X10_at {S : pS} {p h one ot fi : Int} : Ct yX10_at cX10_at 6 (Option.some FieldType.int) 0 0 0 [.int (iI p), .int (iI h), .int (iI one), .int (iI ot), .int (iI fi)] S (kI (atF p h one ot fi) S) := by
  refine Ct.ofJ (by decide +kernel) (Nat.le_of_ble_eq_true rfl) ?_
  refine J_L (L1 := [some (.int (iI p)), some (.int (iI h)), some (.int (iI one)), some (.int (iI ot)), some (.int (iI fi)), none]) rfl ?_
  refine J_bipush (pc1 := 2) (by decide) dX10_at_0 rfl ?_
  refine J_iload_n (pc1 := 3) rfl (i := 2) rfl dX10_at_2 rfl ?_
  refine J_iconst (pc1 := 4) dX10_at_3 rfl ?_
  refine J_iadd (pc1 := 5) dX10_at_4 rfl ?_
  refine J_imul (pc1 := 6) dX10_at_5 rfl ?_
  refine J_iload_n (pc1 := 7) rfl (i := 3) rfl dX10_at_6 rfl ?_
  refine J_iadd (pc1 := 8) dX10_at_7 rfl ?_
  refine J_iconst (pc1 := 9) dX10_at_8 rfl ?_
  refine J_iadd (pc1 := 10) dX10_at_9 rfl ?_
  refine J_istore (pc1 := 12) (L1 := [some (.int (iI p)), some (.int (iI h)), some (.int (iI one)), some (.int (iI ot)), some (.int (iI fi)), some (.int (iI (((27 * (one + 2)) + ot) + 2)))]) dX10_at_10 rfl (by decide) rfl rfl ?_
  refine J_iload_n (pc1 := 13) rfl (i := 0) rfl dX10_at_12 rfl ?_
  refine J_bipush (pc1 := 15) (by decide) dX10_at_13 rfl ?_
  refine J_imul (pc1 := 16) dX10_at_15 rfl ?_
  refine J_iload_n (pc1 := 17) rfl (i := 1) rfl dX10_at_16 rfl ?_
  refine J_iadd (pc1 := 18) dX10_at_17 rfl ?_
  refine J_iconst (pc1 := 19) dX10_at_18 rfl ?_
  refine J_iadd (pc1 := 20) dX10_at_19 rfl ?_
  refine J_bipush (pc1 := 22) (by decide) dX10_at_20 rfl ?_
  refine J_imul (pc1 := 23) dX10_at_22 rfl ?_
  refine J_bipush (pc1 := 25) (by decide) dX10_at_23 rfl ?_
  refine J_imul (pc1 := 26) dX10_at_25 rfl ?_
  refine J_iload (pc1 := 28) rfl dX10_at_26 rfl ?_
  refine J_iadd (pc1 := 29) dX10_at_28 rfl ?_
  refine J_iconst (pc1 := 30) dX10_at_29 rfl ?_
  refine J_imul (pc1 := 31) dX10_at_30 rfl ?_
  refine J_iload (pc1 := 33) rfl dX10_at_31 rfl ?_
  refine J_iadd (pc1 := 34) dX10_at_33 rfl ?_
  exact J_iret rfl rfl dX10_at_34 (Nat.le_refl _) (Nat.le_refl _) (kI_mk (by unfold atF; omega))
set_option maxHeartbeats 2000000 in
set_option maxRecDepth 20000 in
theorem c_X10_behind {S : pS} {B : Nat → Nat} {f hs sl sv ti tx to : Int → Int} {n ik kr ks L sp nu rd : Int} (W : MW S B f hs sl sv ti tx to n ik kr ks L sp nu rd) {p h one ot fi b a : Int} (h2 : f 2 = 0 ∨ f 2 = 1) (h3 : f 3 = 0 ∨ f 3 = 1) (hf : fi = 0 ∨ fi = 1) (hb : -1000 ≤ b ∧ b ≤ 1000) (ha : -1000 ≤ a ∧ a ≤ 1000) : Ct yX10_behind cX10_behind 13 (Option.some FieldType.int) 1 0 0 [.ref (B 0), .int (iI p), .int (iI h), .int (iI one), .int (iI ot), .int (iI fi), .int (iI b), .int (iI a)] S (kI (bhF (f 3) (f 2) p h one ot fi b a) S) := by
  have hk := tkG_b (ti := f 3) (b := b) (a := a) hf
  refine Ct.ofJ (by decide +kernel) (Nat.le_of_ble_eq_true rfl) ?_
  refine J_L (L1 := [some (.ref (B 0)), some (.int (iI p)), some (.int (iI h)), some (.int (iI one)), some (.int (iI ot)), some (.int (iI fi)), some (.int (iI b)), some (.int (iI a)), none, none, none, none, none]) rfl ?_
  refine J_aload_n (pc1 := 1) rfl (i := 0) rfl dX10_behind_0 rfl ?_
  refine J_iload (pc1 := 3) rfl dX10_behind_1 rfl ?_
  refine J_iload (pc1 := 5) rfl dX10_behind_3 rfl ?_
  refine J_iload (pc1 := 7) rfl dX10_behind_5 rfl ?_
  refine J_callVI (pc1 := 10) (As := [.int (iI fi), .int (iI b), .int (iI a)]) gv_X10_42 yv_X10_taker rfl (c_X10_taker ⟨W.1, W.2.1, W.2.2.1, W.2.2.2.1, W.2.2.2.2.1, W.2.2.2.2.2.1, W.2.2.2.2.2.2.1, W.2.2.2.2.2.2.2⟩ (b := b) (a := a) (by omega) (by omega) (by omega)) dX10_behind_7 rfl W.1 rfl rfl (by omega) (by decide) (by omega) (by omega) (Nat.le_of_ble_eq_true rfl) ?_
  refine J_istore (pc1 := 12) (L1 := [some (.ref (B 0)), some (.int (iI p)), some (.int (iI h)), some (.int (iI one)), some (.int (iI ot)), some (.int (iI fi)), some (.int (iI b)), some (.int (iI a)), some (.int (iI (tkG (f 3) fi b a))), none, none, none, none]) dX10_behind_10 rfl (by decide) rfl rfl ?_
  refine J_iload (pc1 := 14) rfl dX10_behind_12 rfl ?_
  refine J_iload (pc1 := 16) rfl dX10_behind_14 rfl ?_
  refine J_icmp_ne (pc1 := 19) (tgt := 24) (by omega) (by omega) (by omega) (by omega) dX10_behind_16 rfl rfl (fun hc1 => ?_) (fun hc1 => ?_)
  · refine J_iload (pc1 := 26) rfl dX10_behind_24 rfl ?_
    refine J_istore (pc1 := 28) (L1 := [some (.ref (B 0)), some (.int (iI p)), some (.int (iI h)), some (.int (iI one)), some (.int (iI ot)), some (.int (iI fi)), some (.int (iI b)), some (.int (iI a)), some (.int (iI (tkG (f 3) fi b a))), some (.int (iI a)), none, none, none]) dX10_behind_26 rfl (by decide) rfl rfl ?_
    refine J_aload_n (pc1 := 29) rfl (i := 0) rfl dX10_behind_28 rfl ?_
    refine J_get (pc1 := 32) (j := 0) inUX10 (ci := 10) rfl (by decide) lf_X10_7 dX10_behind_29 rfl W.1 rfl ?_
    refine J_iconst (pc1 := 33) dX10_behind_32 rfl ?_
    refine J_iald (pc1 := 34) dX10_behind_33 rfl W.2.1 (by omega) (by omega) (by omega) ?_
    refine J_if_ne (pc1 := 37) (tgt := 42) (by omega) (by omega) dX10_behind_34 rfl rfl (fun hc2 => ?_) (fun hc2 => ?_)
    · refine J_iconst (pc1 := 43) dX10_behind_42 rfl ?_
      refine J_istore (pc1 := 45) (L1 := [some (.ref (B 0)), some (.int (iI p)), some (.int (iI h)), some (.int (iI one)), some (.int (iI ot)), some (.int (iI fi)), some (.int (iI b)), some (.int (iI a)), some (.int (iI (tkG (f 3) fi b a))), some (.int (iI a)), some (.int (iI 0)), none, none]) dX10_behind_43 rfl (by decide) rfl rfl ?_
      refine J_iload (pc1 := 47) rfl dX10_behind_45 rfl ?_
      refine J_if_ne (pc1 := 50) (tgt := 57) (by omega) (by omega) dX10_behind_47 rfl rfl (fun hc3 => ?_) (fun hc3 => ?_)
      · refine J_iload_n (pc1 := 58) rfl (i := 3) rfl dX10_behind_57 rfl ?_
        refine J_iload (pc1 := 60) rfl dX10_behind_58 rfl ?_
        refine J_iadd (pc1 := 61) dX10_behind_60 rfl ?_
        refine J_istore (pc1 := 63) (L1 := [some (.ref (B 0)), some (.int (iI p)), some (.int (iI h)), some (.int (iI one)), some (.int (iI ot)), some (.int (iI fi)), some (.int (iI b)), some (.int (iI a)), some (.int (iI (tkG (f 3) fi b a))), some (.int (iI a)), some (.int (iI 0)), some (.int (iI (one + 0))), none]) dX10_behind_61 rfl (by decide) rfl rfl ?_
        refine J_iload (pc1 := 65) rfl dX10_behind_63 rfl ?_
        refine J_if_ne (pc1 := 68) (tgt := 76) (by omega) (by omega) dX10_behind_65 rfl rfl (fun hc4 => ?_) (fun hc4 => ?_)
        · refine J_iload (pc1 := 78) rfl dX10_behind_76 rfl ?_
          refine J_iload (pc1 := 80) rfl dX10_behind_78 rfl ?_
          refine J_isub (pc1 := 81) dX10_behind_80 rfl ?_
          refine J_istore (pc1 := 83) (L1 := [some (.ref (B 0)), some (.int (iI p)), some (.int (iI h)), some (.int (iI one)), some (.int (iI ot)), some (.int (iI fi)), some (.int (iI b)), some (.int (iI a)), some (.int (iI (tkG (f 3) fi b a))), some (.int (iI a)), some (.int (iI 0)), some (.int (iI (one + 0))), some (.int (iI (ot - a)))]) dX10_behind_81 rfl (by decide) rfl rfl ?_
          refine J_iload_n (pc1 := 84) rfl (i := 1) rfl dX10_behind_83 rfl ?_
          refine J_iload (pc1 := 86) rfl dX10_behind_84 rfl ?_
          refine J_if_ne (pc1 := 89) (tgt := 95) (by omega) (by omega) dX10_behind_86 rfl rfl (fun hc5 => ?_) (fun hc5 => ?_)
          · refine J_iload_n (pc1 := 96) rfl (i := 2) rfl dX10_behind_95 rfl ?_
            refine J_iconst (pc1 := 97) dX10_behind_96 rfl ?_
            refine J_isub (pc1 := 98) dX10_behind_97 rfl ?_
            refine J_iload (pc1 := 100) rfl dX10_behind_98 rfl ?_
            refine J_iload (pc1 := 102) rfl dX10_behind_100 rfl ?_
            refine J_iconst (pc1 := 103) dX10_behind_102 rfl ?_
            refine J_iload (pc1 := 105) rfl dX10_behind_103 rfl ?_
            refine J_isub (pc1 := 106) dX10_behind_105 rfl ?_
            refine J_callSI (pc1 := 109) (As := [.int (iI p), .int (iI (h - 1)), .int (iI (one + 0)), .int (iI (ot - a)), .int (iI (1 - fi))]) gs_X10_53 yv_X10_at (c_X10_at) dX10_behind_106 rfl rfl rfl (by omega) (by decide) (by omega) (by omega) (Nat.le_of_ble_eq_true rfl) ?_
            exact J_iret rfl rfl dX10_behind_109 (Nat.le_refl _) (Nat.le_refl _) (kI_mk (by unfold bhF pyG gaE; (repeat' split) <;> first | rfl | (exfalso; omega)))
          · refine J_iload_n (pc1 := 90) rfl (i := 2) rfl dX10_behind_89 rfl ?_
            refine J_iconst (pc1 := 91) dX10_behind_90 rfl ?_
            refine J_iadd (pc1 := 92) dX10_behind_91 rfl ?_
            refine J_goto (tgt := 98) dX10_behind_92 rfl ?_
            refine J_iload (pc1 := 100) rfl dX10_behind_98 rfl ?_
            refine J_iload (pc1 := 102) rfl dX10_behind_100 rfl ?_
            refine J_iconst (pc1 := 103) dX10_behind_102 rfl ?_
            refine J_iload (pc1 := 105) rfl dX10_behind_103 rfl ?_
            refine J_isub (pc1 := 106) dX10_behind_105 rfl ?_
            refine J_callSI (pc1 := 109) (As := [.int (iI p), .int (iI (h + 1)), .int (iI (one + 0)), .int (iI (ot - a)), .int (iI (1 - fi))]) gs_X10_53 yv_X10_at (c_X10_at) dX10_behind_106 rfl rfl rfl (by omega) (by decide) (by omega) (by omega) (Nat.le_of_ble_eq_true rfl) ?_
            exact J_iret rfl rfl dX10_behind_109 (Nat.le_refl _) (Nat.le_refl _) (kI_mk (by unfold bhF pyG gaE; (repeat' split) <;> first | rfl | (exfalso; omega)))
        · refine J_iload (pc1 := 70) rfl dX10_behind_68 rfl ?_
          refine J_iload (pc1 := 72) rfl dX10_behind_70 rfl ?_
          refine J_iadd (pc1 := 73) dX10_behind_72 rfl ?_
          refine J_goto (tgt := 81) dX10_behind_73 rfl ?_
          refine J_istore (pc1 := 83) (L1 := [some (.ref (B 0)), some (.int (iI p)), some (.int (iI h)), some (.int (iI one)), some (.int (iI ot)), some (.int (iI fi)), some (.int (iI b)), some (.int (iI a)), some (.int (iI (tkG (f 3) fi b a))), some (.int (iI a)), some (.int (iI 0)), some (.int (iI (one + 0))), some (.int (iI (ot + 0)))]) dX10_behind_81 rfl (by decide) rfl rfl ?_
          refine J_iload_n (pc1 := 84) rfl (i := 1) rfl dX10_behind_83 rfl ?_
          refine J_iload (pc1 := 86) rfl dX10_behind_84 rfl ?_
          refine J_if_ne (pc1 := 89) (tgt := 95) (by omega) (by omega) dX10_behind_86 rfl rfl (fun hc6 => ?_) (fun hc6 => ?_)
          · refine J_iload_n (pc1 := 96) rfl (i := 2) rfl dX10_behind_95 rfl ?_
            refine J_iconst (pc1 := 97) dX10_behind_96 rfl ?_
            refine J_isub (pc1 := 98) dX10_behind_97 rfl ?_
            refine J_iload (pc1 := 100) rfl dX10_behind_98 rfl ?_
            refine J_iload (pc1 := 102) rfl dX10_behind_100 rfl ?_
            refine J_iconst (pc1 := 103) dX10_behind_102 rfl ?_
            refine J_iload (pc1 := 105) rfl dX10_behind_103 rfl ?_
            refine J_isub (pc1 := 106) dX10_behind_105 rfl ?_
            refine J_callSI (pc1 := 109) (As := [.int (iI p), .int (iI (h - 1)), .int (iI (one + 0)), .int (iI (ot + 0)), .int (iI (1 - fi))]) gs_X10_53 yv_X10_at (c_X10_at) dX10_behind_106 rfl rfl rfl (by omega) (by decide) (by omega) (by omega) (Nat.le_of_ble_eq_true rfl) ?_
            exact J_iret rfl rfl dX10_behind_109 (Nat.le_refl _) (Nat.le_refl _) (kI_mk (by unfold bhF pyG gaE; (repeat' split) <;> first | rfl | (exfalso; omega)))
          · refine J_iload_n (pc1 := 90) rfl (i := 2) rfl dX10_behind_89 rfl ?_
            refine J_iconst (pc1 := 91) dX10_behind_90 rfl ?_
            refine J_iadd (pc1 := 92) dX10_behind_91 rfl ?_
            refine J_goto (tgt := 98) dX10_behind_92 rfl ?_
            refine J_iload (pc1 := 100) rfl dX10_behind_98 rfl ?_
            refine J_iload (pc1 := 102) rfl dX10_behind_100 rfl ?_
            refine J_iconst (pc1 := 103) dX10_behind_102 rfl ?_
            refine J_iload (pc1 := 105) rfl dX10_behind_103 rfl ?_
            refine J_isub (pc1 := 106) dX10_behind_105 rfl ?_
            refine J_callSI (pc1 := 109) (As := [.int (iI p), .int (iI (h + 1)), .int (iI (one + 0)), .int (iI (ot + 0)), .int (iI (1 - fi))]) gs_X10_53 yv_X10_at (c_X10_at) dX10_behind_106 rfl rfl rfl (by omega) (by decide) (by omega) (by omega) (Nat.le_of_ble_eq_true rfl) ?_
            exact J_iret rfl rfl dX10_behind_109 (Nat.le_refl _) (Nat.le_refl _) (kI_mk (by unfold bhF pyG gaE; (repeat' split) <;> first | rfl | (exfalso; omega)))
      · refine J_iload_n (pc1 := 51) rfl (i := 3) rfl dX10_behind_50 rfl ?_
        refine J_iload (pc1 := 53) rfl dX10_behind_51 rfl ?_
        refine J_isub (pc1 := 54) dX10_behind_53 rfl ?_
        refine J_goto (tgt := 61) dX10_behind_54 rfl ?_
        refine J_istore (pc1 := 63) (L1 := [some (.ref (B 0)), some (.int (iI p)), some (.int (iI h)), some (.int (iI one)), some (.int (iI ot)), some (.int (iI fi)), some (.int (iI b)), some (.int (iI a)), some (.int (iI (tkG (f 3) fi b a))), some (.int (iI a)), some (.int (iI 0)), some (.int (iI (one - a))), none]) dX10_behind_61 rfl (by decide) rfl rfl ?_
        refine J_iload (pc1 := 65) rfl dX10_behind_63 rfl ?_
        refine J_if_ne (pc1 := 68) (tgt := 76) (by omega) (by omega) dX10_behind_65 rfl rfl (fun hc7 => ?_) (fun hc7 => ?_)
        · refine J_iload (pc1 := 78) rfl dX10_behind_76 rfl ?_
          refine J_iload (pc1 := 80) rfl dX10_behind_78 rfl ?_
          refine J_isub (pc1 := 81) dX10_behind_80 rfl ?_
          refine J_istore (pc1 := 83) (L1 := [some (.ref (B 0)), some (.int (iI p)), some (.int (iI h)), some (.int (iI one)), some (.int (iI ot)), some (.int (iI fi)), some (.int (iI b)), some (.int (iI a)), some (.int (iI (tkG (f 3) fi b a))), some (.int (iI a)), some (.int (iI 0)), some (.int (iI (one - a))), some (.int (iI (ot - a)))]) dX10_behind_81 rfl (by decide) rfl rfl ?_
          refine J_iload_n (pc1 := 84) rfl (i := 1) rfl dX10_behind_83 rfl ?_
          refine J_iload (pc1 := 86) rfl dX10_behind_84 rfl ?_
          refine J_if_ne (pc1 := 89) (tgt := 95) (by omega) (by omega) dX10_behind_86 rfl rfl (fun hc8 => ?_) (fun hc8 => ?_)
          · refine J_iload_n (pc1 := 96) rfl (i := 2) rfl dX10_behind_95 rfl ?_
            refine J_iconst (pc1 := 97) dX10_behind_96 rfl ?_
            refine J_isub (pc1 := 98) dX10_behind_97 rfl ?_
            refine J_iload (pc1 := 100) rfl dX10_behind_98 rfl ?_
            refine J_iload (pc1 := 102) rfl dX10_behind_100 rfl ?_
            refine J_iconst (pc1 := 103) dX10_behind_102 rfl ?_
            refine J_iload (pc1 := 105) rfl dX10_behind_103 rfl ?_
            refine J_isub (pc1 := 106) dX10_behind_105 rfl ?_
            refine J_callSI (pc1 := 109) (As := [.int (iI p), .int (iI (h - 1)), .int (iI (one - a)), .int (iI (ot - a)), .int (iI (1 - fi))]) gs_X10_53 yv_X10_at (c_X10_at) dX10_behind_106 rfl rfl rfl (by omega) (by decide) (by omega) (by omega) (Nat.le_of_ble_eq_true rfl) ?_
            exact J_iret rfl rfl dX10_behind_109 (Nat.le_refl _) (Nat.le_refl _) (kI_mk (by unfold bhF pyG gaE; (repeat' split) <;> first | rfl | (exfalso; omega)))
          · refine J_iload_n (pc1 := 90) rfl (i := 2) rfl dX10_behind_89 rfl ?_
            refine J_iconst (pc1 := 91) dX10_behind_90 rfl ?_
            refine J_iadd (pc1 := 92) dX10_behind_91 rfl ?_
            refine J_goto (tgt := 98) dX10_behind_92 rfl ?_
            refine J_iload (pc1 := 100) rfl dX10_behind_98 rfl ?_
            refine J_iload (pc1 := 102) rfl dX10_behind_100 rfl ?_
            refine J_iconst (pc1 := 103) dX10_behind_102 rfl ?_
            refine J_iload (pc1 := 105) rfl dX10_behind_103 rfl ?_
            refine J_isub (pc1 := 106) dX10_behind_105 rfl ?_
            refine J_callSI (pc1 := 109) (As := [.int (iI p), .int (iI (h + 1)), .int (iI (one - a)), .int (iI (ot - a)), .int (iI (1 - fi))]) gs_X10_53 yv_X10_at (c_X10_at) dX10_behind_106 rfl rfl rfl (by omega) (by decide) (by omega) (by omega) (Nat.le_of_ble_eq_true rfl) ?_
            exact J_iret rfl rfl dX10_behind_109 (Nat.le_refl _) (Nat.le_refl _) (kI_mk (by unfold bhF pyG gaE; (repeat' split) <;> first | rfl | (exfalso; omega)))
        · refine J_iload (pc1 := 70) rfl dX10_behind_68 rfl ?_
          refine J_iload (pc1 := 72) rfl dX10_behind_70 rfl ?_
          refine J_iadd (pc1 := 73) dX10_behind_72 rfl ?_
          refine J_goto (tgt := 81) dX10_behind_73 rfl ?_
          refine J_istore (pc1 := 83) (L1 := [some (.ref (B 0)), some (.int (iI p)), some (.int (iI h)), some (.int (iI one)), some (.int (iI ot)), some (.int (iI fi)), some (.int (iI b)), some (.int (iI a)), some (.int (iI (tkG (f 3) fi b a))), some (.int (iI a)), some (.int (iI 0)), some (.int (iI (one - a))), some (.int (iI (ot + 0)))]) dX10_behind_81 rfl (by decide) rfl rfl ?_
          refine J_iload_n (pc1 := 84) rfl (i := 1) rfl dX10_behind_83 rfl ?_
          refine J_iload (pc1 := 86) rfl dX10_behind_84 rfl ?_
          refine J_if_ne (pc1 := 89) (tgt := 95) (by omega) (by omega) dX10_behind_86 rfl rfl (fun hc9 => ?_) (fun hc9 => ?_)
          · refine J_iload_n (pc1 := 96) rfl (i := 2) rfl dX10_behind_95 rfl ?_
            refine J_iconst (pc1 := 97) dX10_behind_96 rfl ?_
            refine J_isub (pc1 := 98) dX10_behind_97 rfl ?_
            refine J_iload (pc1 := 100) rfl dX10_behind_98 rfl ?_
            refine J_iload (pc1 := 102) rfl dX10_behind_100 rfl ?_
            refine J_iconst (pc1 := 103) dX10_behind_102 rfl ?_
            refine J_iload (pc1 := 105) rfl dX10_behind_103 rfl ?_
            refine J_isub (pc1 := 106) dX10_behind_105 rfl ?_
            refine J_callSI (pc1 := 109) (As := [.int (iI p), .int (iI (h - 1)), .int (iI (one - a)), .int (iI (ot + 0)), .int (iI (1 - fi))]) gs_X10_53 yv_X10_at (c_X10_at) dX10_behind_106 rfl rfl rfl (by omega) (by decide) (by omega) (by omega) (Nat.le_of_ble_eq_true rfl) ?_
            exact J_iret rfl rfl dX10_behind_109 (Nat.le_refl _) (Nat.le_refl _) (kI_mk (by unfold bhF pyG gaE; (repeat' split) <;> first | rfl | (exfalso; omega)))
          · refine J_iload_n (pc1 := 90) rfl (i := 2) rfl dX10_behind_89 rfl ?_
            refine J_iconst (pc1 := 91) dX10_behind_90 rfl ?_
            refine J_iadd (pc1 := 92) dX10_behind_91 rfl ?_
            refine J_goto (tgt := 98) dX10_behind_92 rfl ?_
            refine J_iload (pc1 := 100) rfl dX10_behind_98 rfl ?_
            refine J_iload (pc1 := 102) rfl dX10_behind_100 rfl ?_
            refine J_iconst (pc1 := 103) dX10_behind_102 rfl ?_
            refine J_iload (pc1 := 105) rfl dX10_behind_103 rfl ?_
            refine J_isub (pc1 := 106) dX10_behind_105 rfl ?_
            refine J_callSI (pc1 := 109) (As := [.int (iI p), .int (iI (h + 1)), .int (iI (one - a)), .int (iI (ot + 0)), .int (iI (1 - fi))]) gs_X10_53 yv_X10_at (c_X10_at) dX10_behind_106 rfl rfl rfl (by omega) (by decide) (by omega) (by omega) (Nat.le_of_ble_eq_true rfl) ?_
            exact J_iret rfl rfl dX10_behind_109 (Nat.le_refl _) (Nat.le_refl _) (kI_mk (by unfold bhF pyG gaE; (repeat' split) <;> first | rfl | (exfalso; omega)))
    · refine J_iload (pc1 := 39) rfl dX10_behind_37 rfl ?_
      refine J_goto (tgt := 43) dX10_behind_39 rfl ?_
      refine J_istore (pc1 := 45) (L1 := [some (.ref (B 0)), some (.int (iI p)), some (.int (iI h)), some (.int (iI one)), some (.int (iI ot)), some (.int (iI fi)), some (.int (iI b)), some (.int (iI a)), some (.int (iI (tkG (f 3) fi b a))), some (.int (iI a)), some (.int (iI a)), none, none]) dX10_behind_43 rfl (by decide) rfl rfl ?_
      refine J_iload (pc1 := 47) rfl dX10_behind_45 rfl ?_
      refine J_if_ne (pc1 := 50) (tgt := 57) (by omega) (by omega) dX10_behind_47 rfl rfl (fun hc10 => ?_) (fun hc10 => ?_)
      · refine J_iload_n (pc1 := 58) rfl (i := 3) rfl dX10_behind_57 rfl ?_
        refine J_iload (pc1 := 60) rfl dX10_behind_58 rfl ?_
        refine J_iadd (pc1 := 61) dX10_behind_60 rfl ?_
        refine J_istore (pc1 := 63) (L1 := [some (.ref (B 0)), some (.int (iI p)), some (.int (iI h)), some (.int (iI one)), some (.int (iI ot)), some (.int (iI fi)), some (.int (iI b)), some (.int (iI a)), some (.int (iI (tkG (f 3) fi b a))), some (.int (iI a)), some (.int (iI a)), some (.int (iI (one + a))), none]) dX10_behind_61 rfl (by decide) rfl rfl ?_
        refine J_iload (pc1 := 65) rfl dX10_behind_63 rfl ?_
        refine J_if_ne (pc1 := 68) (tgt := 76) (by omega) (by omega) dX10_behind_65 rfl rfl (fun hc11 => ?_) (fun hc11 => ?_)
        · refine J_iload (pc1 := 78) rfl dX10_behind_76 rfl ?_
          refine J_iload (pc1 := 80) rfl dX10_behind_78 rfl ?_
          refine J_isub (pc1 := 81) dX10_behind_80 rfl ?_
          refine J_istore (pc1 := 83) (L1 := [some (.ref (B 0)), some (.int (iI p)), some (.int (iI h)), some (.int (iI one)), some (.int (iI ot)), some (.int (iI fi)), some (.int (iI b)), some (.int (iI a)), some (.int (iI (tkG (f 3) fi b a))), some (.int (iI a)), some (.int (iI a)), some (.int (iI (one + a))), some (.int (iI (ot - a)))]) dX10_behind_81 rfl (by decide) rfl rfl ?_
          refine J_iload_n (pc1 := 84) rfl (i := 1) rfl dX10_behind_83 rfl ?_
          refine J_iload (pc1 := 86) rfl dX10_behind_84 rfl ?_
          refine J_if_ne (pc1 := 89) (tgt := 95) (by omega) (by omega) dX10_behind_86 rfl rfl (fun hc12 => ?_) (fun hc12 => ?_)
          · refine J_iload_n (pc1 := 96) rfl (i := 2) rfl dX10_behind_95 rfl ?_
            refine J_iconst (pc1 := 97) dX10_behind_96 rfl ?_
            refine J_isub (pc1 := 98) dX10_behind_97 rfl ?_
            refine J_iload (pc1 := 100) rfl dX10_behind_98 rfl ?_
            refine J_iload (pc1 := 102) rfl dX10_behind_100 rfl ?_
            refine J_iconst (pc1 := 103) dX10_behind_102 rfl ?_
            refine J_iload (pc1 := 105) rfl dX10_behind_103 rfl ?_
            refine J_isub (pc1 := 106) dX10_behind_105 rfl ?_
            refine J_callSI (pc1 := 109) (As := [.int (iI p), .int (iI (h - 1)), .int (iI (one + a)), .int (iI (ot - a)), .int (iI (1 - fi))]) gs_X10_53 yv_X10_at (c_X10_at) dX10_behind_106 rfl rfl rfl (by omega) (by decide) (by omega) (by omega) (Nat.le_of_ble_eq_true rfl) ?_
            exact J_iret rfl rfl dX10_behind_109 (Nat.le_refl _) (Nat.le_refl _) (kI_mk (by unfold bhF pyG gaE; (repeat' split) <;> first | rfl | (exfalso; omega)))
          · refine J_iload_n (pc1 := 90) rfl (i := 2) rfl dX10_behind_89 rfl ?_
            refine J_iconst (pc1 := 91) dX10_behind_90 rfl ?_
            refine J_iadd (pc1 := 92) dX10_behind_91 rfl ?_
            refine J_goto (tgt := 98) dX10_behind_92 rfl ?_
            refine J_iload (pc1 := 100) rfl dX10_behind_98 rfl ?_
            refine J_iload (pc1 := 102) rfl dX10_behind_100 rfl ?_
            refine J_iconst (pc1 := 103) dX10_behind_102 rfl ?_
            refine J_iload (pc1 := 105) rfl dX10_behind_103 rfl ?_
            refine J_isub (pc1 := 106) dX10_behind_105 rfl ?_
            refine J_callSI (pc1 := 109) (As := [.int (iI p), .int (iI (h + 1)), .int (iI (one + a)), .int (iI (ot - a)), .int (iI (1 - fi))]) gs_X10_53 yv_X10_at (c_X10_at) dX10_behind_106 rfl rfl rfl (by omega) (by decide) (by omega) (by omega) (Nat.le_of_ble_eq_true rfl) ?_
            exact J_iret rfl rfl dX10_behind_109 (Nat.le_refl _) (Nat.le_refl _) (kI_mk (by unfold bhF pyG gaE; (repeat' split) <;> first | rfl | (exfalso; omega)))
        · refine J_iload (pc1 := 70) rfl dX10_behind_68 rfl ?_
          refine J_iload (pc1 := 72) rfl dX10_behind_70 rfl ?_
          refine J_iadd (pc1 := 73) dX10_behind_72 rfl ?_
          refine J_goto (tgt := 81) dX10_behind_73 rfl ?_
          refine J_istore (pc1 := 83) (L1 := [some (.ref (B 0)), some (.int (iI p)), some (.int (iI h)), some (.int (iI one)), some (.int (iI ot)), some (.int (iI fi)), some (.int (iI b)), some (.int (iI a)), some (.int (iI (tkG (f 3) fi b a))), some (.int (iI a)), some (.int (iI a)), some (.int (iI (one + a))), some (.int (iI (ot + a)))]) dX10_behind_81 rfl (by decide) rfl rfl ?_
          refine J_iload_n (pc1 := 84) rfl (i := 1) rfl dX10_behind_83 rfl ?_
          refine J_iload (pc1 := 86) rfl dX10_behind_84 rfl ?_
          refine J_if_ne (pc1 := 89) (tgt := 95) (by omega) (by omega) dX10_behind_86 rfl rfl (fun hc13 => ?_) (fun hc13 => ?_)
          · refine J_iload_n (pc1 := 96) rfl (i := 2) rfl dX10_behind_95 rfl ?_
            refine J_iconst (pc1 := 97) dX10_behind_96 rfl ?_
            refine J_isub (pc1 := 98) dX10_behind_97 rfl ?_
            refine J_iload (pc1 := 100) rfl dX10_behind_98 rfl ?_
            refine J_iload (pc1 := 102) rfl dX10_behind_100 rfl ?_
            refine J_iconst (pc1 := 103) dX10_behind_102 rfl ?_
            refine J_iload (pc1 := 105) rfl dX10_behind_103 rfl ?_
            refine J_isub (pc1 := 106) dX10_behind_105 rfl ?_
            refine J_callSI (pc1 := 109) (As := [.int (iI p), .int (iI (h - 1)), .int (iI (one + a)), .int (iI (ot + a)), .int (iI (1 - fi))]) gs_X10_53 yv_X10_at (c_X10_at) dX10_behind_106 rfl rfl rfl (by omega) (by decide) (by omega) (by omega) (Nat.le_of_ble_eq_true rfl) ?_
            exact J_iret rfl rfl dX10_behind_109 (Nat.le_refl _) (Nat.le_refl _) (kI_mk (by unfold bhF pyG gaE; (repeat' split) <;> first | rfl | (exfalso; omega)))
          · refine J_iload_n (pc1 := 90) rfl (i := 2) rfl dX10_behind_89 rfl ?_
            refine J_iconst (pc1 := 91) dX10_behind_90 rfl ?_
            refine J_iadd (pc1 := 92) dX10_behind_91 rfl ?_
            refine J_goto (tgt := 98) dX10_behind_92 rfl ?_
            refine J_iload (pc1 := 100) rfl dX10_behind_98 rfl ?_
            refine J_iload (pc1 := 102) rfl dX10_behind_100 rfl ?_
            refine J_iconst (pc1 := 103) dX10_behind_102 rfl ?_
            refine J_iload (pc1 := 105) rfl dX10_behind_103 rfl ?_
            refine J_isub (pc1 := 106) dX10_behind_105 rfl ?_
            refine J_callSI (pc1 := 109) (As := [.int (iI p), .int (iI (h + 1)), .int (iI (one + a)), .int (iI (ot + a)), .int (iI (1 - fi))]) gs_X10_53 yv_X10_at (c_X10_at) dX10_behind_106 rfl rfl rfl (by omega) (by decide) (by omega) (by omega) (Nat.le_of_ble_eq_true rfl) ?_
            exact J_iret rfl rfl dX10_behind_109 (Nat.le_refl _) (Nat.le_refl _) (kI_mk (by unfold bhF pyG gaE; (repeat' split) <;> first | rfl | (exfalso; omega)))
      · refine J_iload_n (pc1 := 51) rfl (i := 3) rfl dX10_behind_50 rfl ?_
        refine J_iload (pc1 := 53) rfl dX10_behind_51 rfl ?_
        refine J_isub (pc1 := 54) dX10_behind_53 rfl ?_
        refine J_goto (tgt := 61) dX10_behind_54 rfl ?_
        refine J_istore (pc1 := 63) (L1 := [some (.ref (B 0)), some (.int (iI p)), some (.int (iI h)), some (.int (iI one)), some (.int (iI ot)), some (.int (iI fi)), some (.int (iI b)), some (.int (iI a)), some (.int (iI (tkG (f 3) fi b a))), some (.int (iI a)), some (.int (iI a)), some (.int (iI (one - a))), none]) dX10_behind_61 rfl (by decide) rfl rfl ?_
        refine J_iload (pc1 := 65) rfl dX10_behind_63 rfl ?_
        refine J_if_ne (pc1 := 68) (tgt := 76) (by omega) (by omega) dX10_behind_65 rfl rfl (fun hc14 => ?_) (fun hc14 => ?_)
        · refine J_iload (pc1 := 78) rfl dX10_behind_76 rfl ?_
          refine J_iload (pc1 := 80) rfl dX10_behind_78 rfl ?_
          refine J_isub (pc1 := 81) dX10_behind_80 rfl ?_
          refine J_istore (pc1 := 83) (L1 := [some (.ref (B 0)), some (.int (iI p)), some (.int (iI h)), some (.int (iI one)), some (.int (iI ot)), some (.int (iI fi)), some (.int (iI b)), some (.int (iI a)), some (.int (iI (tkG (f 3) fi b a))), some (.int (iI a)), some (.int (iI a)), some (.int (iI (one - a))), some (.int (iI (ot - a)))]) dX10_behind_81 rfl (by decide) rfl rfl ?_
          refine J_iload_n (pc1 := 84) rfl (i := 1) rfl dX10_behind_83 rfl ?_
          refine J_iload (pc1 := 86) rfl dX10_behind_84 rfl ?_
          refine J_if_ne (pc1 := 89) (tgt := 95) (by omega) (by omega) dX10_behind_86 rfl rfl (fun hc15 => ?_) (fun hc15 => ?_)
          · refine J_iload_n (pc1 := 96) rfl (i := 2) rfl dX10_behind_95 rfl ?_
            refine J_iconst (pc1 := 97) dX10_behind_96 rfl ?_
            refine J_isub (pc1 := 98) dX10_behind_97 rfl ?_
            refine J_iload (pc1 := 100) rfl dX10_behind_98 rfl ?_
            refine J_iload (pc1 := 102) rfl dX10_behind_100 rfl ?_
            refine J_iconst (pc1 := 103) dX10_behind_102 rfl ?_
            refine J_iload (pc1 := 105) rfl dX10_behind_103 rfl ?_
            refine J_isub (pc1 := 106) dX10_behind_105 rfl ?_
            refine J_callSI (pc1 := 109) (As := [.int (iI p), .int (iI (h - 1)), .int (iI (one - a)), .int (iI (ot - a)), .int (iI (1 - fi))]) gs_X10_53 yv_X10_at (c_X10_at) dX10_behind_106 rfl rfl rfl (by omega) (by decide) (by omega) (by omega) (Nat.le_of_ble_eq_true rfl) ?_
            exact J_iret rfl rfl dX10_behind_109 (Nat.le_refl _) (Nat.le_refl _) (kI_mk (by unfold bhF pyG gaE; (repeat' split) <;> first | rfl | (exfalso; omega)))
          · refine J_iload_n (pc1 := 90) rfl (i := 2) rfl dX10_behind_89 rfl ?_
            refine J_iconst (pc1 := 91) dX10_behind_90 rfl ?_
            refine J_iadd (pc1 := 92) dX10_behind_91 rfl ?_
            refine J_goto (tgt := 98) dX10_behind_92 rfl ?_
            refine J_iload (pc1 := 100) rfl dX10_behind_98 rfl ?_
            refine J_iload (pc1 := 102) rfl dX10_behind_100 rfl ?_
            refine J_iconst (pc1 := 103) dX10_behind_102 rfl ?_
            refine J_iload (pc1 := 105) rfl dX10_behind_103 rfl ?_
            refine J_isub (pc1 := 106) dX10_behind_105 rfl ?_
            refine J_callSI (pc1 := 109) (As := [.int (iI p), .int (iI (h + 1)), .int (iI (one - a)), .int (iI (ot - a)), .int (iI (1 - fi))]) gs_X10_53 yv_X10_at (c_X10_at) dX10_behind_106 rfl rfl rfl (by omega) (by decide) (by omega) (by omega) (Nat.le_of_ble_eq_true rfl) ?_
            exact J_iret rfl rfl dX10_behind_109 (Nat.le_refl _) (Nat.le_refl _) (kI_mk (by unfold bhF pyG gaE; (repeat' split) <;> first | rfl | (exfalso; omega)))
        · refine J_iload (pc1 := 70) rfl dX10_behind_68 rfl ?_
          refine J_iload (pc1 := 72) rfl dX10_behind_70 rfl ?_
          refine J_iadd (pc1 := 73) dX10_behind_72 rfl ?_
          refine J_goto (tgt := 81) dX10_behind_73 rfl ?_
          refine J_istore (pc1 := 83) (L1 := [some (.ref (B 0)), some (.int (iI p)), some (.int (iI h)), some (.int (iI one)), some (.int (iI ot)), some (.int (iI fi)), some (.int (iI b)), some (.int (iI a)), some (.int (iI (tkG (f 3) fi b a))), some (.int (iI a)), some (.int (iI a)), some (.int (iI (one - a))), some (.int (iI (ot + a)))]) dX10_behind_81 rfl (by decide) rfl rfl ?_
          refine J_iload_n (pc1 := 84) rfl (i := 1) rfl dX10_behind_83 rfl ?_
          refine J_iload (pc1 := 86) rfl dX10_behind_84 rfl ?_
          refine J_if_ne (pc1 := 89) (tgt := 95) (by omega) (by omega) dX10_behind_86 rfl rfl (fun hc16 => ?_) (fun hc16 => ?_)
          · refine J_iload_n (pc1 := 96) rfl (i := 2) rfl dX10_behind_95 rfl ?_
            refine J_iconst (pc1 := 97) dX10_behind_96 rfl ?_
            refine J_isub (pc1 := 98) dX10_behind_97 rfl ?_
            refine J_iload (pc1 := 100) rfl dX10_behind_98 rfl ?_
            refine J_iload (pc1 := 102) rfl dX10_behind_100 rfl ?_
            refine J_iconst (pc1 := 103) dX10_behind_102 rfl ?_
            refine J_iload (pc1 := 105) rfl dX10_behind_103 rfl ?_
            refine J_isub (pc1 := 106) dX10_behind_105 rfl ?_
            refine J_callSI (pc1 := 109) (As := [.int (iI p), .int (iI (h - 1)), .int (iI (one - a)), .int (iI (ot + a)), .int (iI (1 - fi))]) gs_X10_53 yv_X10_at (c_X10_at) dX10_behind_106 rfl rfl rfl (by omega) (by decide) (by omega) (by omega) (Nat.le_of_ble_eq_true rfl) ?_
            exact J_iret rfl rfl dX10_behind_109 (Nat.le_refl _) (Nat.le_refl _) (kI_mk (by unfold bhF pyG gaE; (repeat' split) <;> first | rfl | (exfalso; omega)))
          · refine J_iload_n (pc1 := 90) rfl (i := 2) rfl dX10_behind_89 rfl ?_
            refine J_iconst (pc1 := 91) dX10_behind_90 rfl ?_
            refine J_iadd (pc1 := 92) dX10_behind_91 rfl ?_
            refine J_goto (tgt := 98) dX10_behind_92 rfl ?_
            refine J_iload (pc1 := 100) rfl dX10_behind_98 rfl ?_
            refine J_iload (pc1 := 102) rfl dX10_behind_100 rfl ?_
            refine J_iconst (pc1 := 103) dX10_behind_102 rfl ?_
            refine J_iload (pc1 := 105) rfl dX10_behind_103 rfl ?_
            refine J_isub (pc1 := 106) dX10_behind_105 rfl ?_
            refine J_callSI (pc1 := 109) (As := [.int (iI p), .int (iI (h + 1)), .int (iI (one - a)), .int (iI (ot + a)), .int (iI (1 - fi))]) gs_X10_53 yv_X10_at (c_X10_at) dX10_behind_106 rfl rfl rfl (by omega) (by decide) (by omega) (by omega) (Nat.le_of_ble_eq_true rfl) ?_
            exact J_iret rfl rfl dX10_behind_109 (Nat.le_refl _) (Nat.le_refl _) (kI_mk (by unfold bhF pyG gaE; (repeat' split) <;> first | rfl | (exfalso; omega)))
  · refine J_iload (pc1 := 21) rfl dX10_behind_19 rfl ?_
    refine J_goto (tgt := 26) dX10_behind_21 rfl ?_
    refine J_istore (pc1 := 28) (L1 := [some (.ref (B 0)), some (.int (iI p)), some (.int (iI h)), some (.int (iI one)), some (.int (iI ot)), some (.int (iI fi)), some (.int (iI b)), some (.int (iI a)), some (.int (iI (tkG (f 3) fi b a))), some (.int (iI b)), none, none, none]) dX10_behind_26 rfl (by decide) rfl rfl ?_
    refine J_aload_n (pc1 := 29) rfl (i := 0) rfl dX10_behind_28 rfl ?_
    refine J_get (pc1 := 32) (j := 0) inUX10 (ci := 10) rfl (by decide) lf_X10_7 dX10_behind_29 rfl W.1 rfl ?_
    refine J_iconst (pc1 := 33) dX10_behind_32 rfl ?_
    refine J_iald (pc1 := 34) dX10_behind_33 rfl W.2.1 (by omega) (by omega) (by omega) ?_
    refine J_if_ne (pc1 := 37) (tgt := 42) (by omega) (by omega) dX10_behind_34 rfl rfl (fun hc17 => ?_) (fun hc17 => ?_)
    · refine J_iconst (pc1 := 43) dX10_behind_42 rfl ?_
      refine J_istore (pc1 := 45) (L1 := [some (.ref (B 0)), some (.int (iI p)), some (.int (iI h)), some (.int (iI one)), some (.int (iI ot)), some (.int (iI fi)), some (.int (iI b)), some (.int (iI a)), some (.int (iI (tkG (f 3) fi b a))), some (.int (iI b)), some (.int (iI 0)), none, none]) dX10_behind_43 rfl (by decide) rfl rfl ?_
      refine J_iload (pc1 := 47) rfl dX10_behind_45 rfl ?_
      refine J_if_ne (pc1 := 50) (tgt := 57) (by omega) (by omega) dX10_behind_47 rfl rfl (fun hc18 => ?_) (fun hc18 => ?_)
      · refine J_iload_n (pc1 := 58) rfl (i := 3) rfl dX10_behind_57 rfl ?_
        refine J_iload (pc1 := 60) rfl dX10_behind_58 rfl ?_
        refine J_iadd (pc1 := 61) dX10_behind_60 rfl ?_
        refine J_istore (pc1 := 63) (L1 := [some (.ref (B 0)), some (.int (iI p)), some (.int (iI h)), some (.int (iI one)), some (.int (iI ot)), some (.int (iI fi)), some (.int (iI b)), some (.int (iI a)), some (.int (iI (tkG (f 3) fi b a))), some (.int (iI b)), some (.int (iI 0)), some (.int (iI (one + 0))), none]) dX10_behind_61 rfl (by decide) rfl rfl ?_
        refine J_iload (pc1 := 65) rfl dX10_behind_63 rfl ?_
        refine J_if_ne (pc1 := 68) (tgt := 76) (by omega) (by omega) dX10_behind_65 rfl rfl (fun hc19 => ?_) (fun hc19 => ?_)
        · refine J_iload (pc1 := 78) rfl dX10_behind_76 rfl ?_
          refine J_iload (pc1 := 80) rfl dX10_behind_78 rfl ?_
          refine J_isub (pc1 := 81) dX10_behind_80 rfl ?_
          refine J_istore (pc1 := 83) (L1 := [some (.ref (B 0)), some (.int (iI p)), some (.int (iI h)), some (.int (iI one)), some (.int (iI ot)), some (.int (iI fi)), some (.int (iI b)), some (.int (iI a)), some (.int (iI (tkG (f 3) fi b a))), some (.int (iI b)), some (.int (iI 0)), some (.int (iI (one + 0))), some (.int (iI (ot - b)))]) dX10_behind_81 rfl (by decide) rfl rfl ?_
          refine J_iload_n (pc1 := 84) rfl (i := 1) rfl dX10_behind_83 rfl ?_
          refine J_iload (pc1 := 86) rfl dX10_behind_84 rfl ?_
          refine J_if_ne (pc1 := 89) (tgt := 95) (by omega) (by omega) dX10_behind_86 rfl rfl (fun hc20 => ?_) (fun hc20 => ?_)
          · refine J_iload_n (pc1 := 96) rfl (i := 2) rfl dX10_behind_95 rfl ?_
            refine J_iconst (pc1 := 97) dX10_behind_96 rfl ?_
            refine J_isub (pc1 := 98) dX10_behind_97 rfl ?_
            refine J_iload (pc1 := 100) rfl dX10_behind_98 rfl ?_
            refine J_iload (pc1 := 102) rfl dX10_behind_100 rfl ?_
            refine J_iconst (pc1 := 103) dX10_behind_102 rfl ?_
            refine J_iload (pc1 := 105) rfl dX10_behind_103 rfl ?_
            refine J_isub (pc1 := 106) dX10_behind_105 rfl ?_
            refine J_callSI (pc1 := 109) (As := [.int (iI p), .int (iI (h - 1)), .int (iI (one + 0)), .int (iI (ot - b)), .int (iI (1 - fi))]) gs_X10_53 yv_X10_at (c_X10_at) dX10_behind_106 rfl rfl rfl (by omega) (by decide) (by omega) (by omega) (Nat.le_of_ble_eq_true rfl) ?_
            exact J_iret rfl rfl dX10_behind_109 (Nat.le_refl _) (Nat.le_refl _) (kI_mk (by unfold bhF pyG gaE; (repeat' split) <;> first | rfl | (exfalso; omega)))
          · refine J_iload_n (pc1 := 90) rfl (i := 2) rfl dX10_behind_89 rfl ?_
            refine J_iconst (pc1 := 91) dX10_behind_90 rfl ?_
            refine J_iadd (pc1 := 92) dX10_behind_91 rfl ?_
            refine J_goto (tgt := 98) dX10_behind_92 rfl ?_
            refine J_iload (pc1 := 100) rfl dX10_behind_98 rfl ?_
            refine J_iload (pc1 := 102) rfl dX10_behind_100 rfl ?_
            refine J_iconst (pc1 := 103) dX10_behind_102 rfl ?_
            refine J_iload (pc1 := 105) rfl dX10_behind_103 rfl ?_
            refine J_isub (pc1 := 106) dX10_behind_105 rfl ?_
            refine J_callSI (pc1 := 109) (As := [.int (iI p), .int (iI (h + 1)), .int (iI (one + 0)), .int (iI (ot - b)), .int (iI (1 - fi))]) gs_X10_53 yv_X10_at (c_X10_at) dX10_behind_106 rfl rfl rfl (by omega) (by decide) (by omega) (by omega) (Nat.le_of_ble_eq_true rfl) ?_
            exact J_iret rfl rfl dX10_behind_109 (Nat.le_refl _) (Nat.le_refl _) (kI_mk (by unfold bhF pyG gaE; (repeat' split) <;> first | rfl | (exfalso; omega)))
        · refine J_iload (pc1 := 70) rfl dX10_behind_68 rfl ?_
          refine J_iload (pc1 := 72) rfl dX10_behind_70 rfl ?_
          refine J_iadd (pc1 := 73) dX10_behind_72 rfl ?_
          refine J_goto (tgt := 81) dX10_behind_73 rfl ?_
          refine J_istore (pc1 := 83) (L1 := [some (.ref (B 0)), some (.int (iI p)), some (.int (iI h)), some (.int (iI one)), some (.int (iI ot)), some (.int (iI fi)), some (.int (iI b)), some (.int (iI a)), some (.int (iI (tkG (f 3) fi b a))), some (.int (iI b)), some (.int (iI 0)), some (.int (iI (one + 0))), some (.int (iI (ot + 0)))]) dX10_behind_81 rfl (by decide) rfl rfl ?_
          refine J_iload_n (pc1 := 84) rfl (i := 1) rfl dX10_behind_83 rfl ?_
          refine J_iload (pc1 := 86) rfl dX10_behind_84 rfl ?_
          refine J_if_ne (pc1 := 89) (tgt := 95) (by omega) (by omega) dX10_behind_86 rfl rfl (fun hc21 => ?_) (fun hc21 => ?_)
          · refine J_iload_n (pc1 := 96) rfl (i := 2) rfl dX10_behind_95 rfl ?_
            refine J_iconst (pc1 := 97) dX10_behind_96 rfl ?_
            refine J_isub (pc1 := 98) dX10_behind_97 rfl ?_
            refine J_iload (pc1 := 100) rfl dX10_behind_98 rfl ?_
            refine J_iload (pc1 := 102) rfl dX10_behind_100 rfl ?_
            refine J_iconst (pc1 := 103) dX10_behind_102 rfl ?_
            refine J_iload (pc1 := 105) rfl dX10_behind_103 rfl ?_
            refine J_isub (pc1 := 106) dX10_behind_105 rfl ?_
            refine J_callSI (pc1 := 109) (As := [.int (iI p), .int (iI (h - 1)), .int (iI (one + 0)), .int (iI (ot + 0)), .int (iI (1 - fi))]) gs_X10_53 yv_X10_at (c_X10_at) dX10_behind_106 rfl rfl rfl (by omega) (by decide) (by omega) (by omega) (Nat.le_of_ble_eq_true rfl) ?_
            exact J_iret rfl rfl dX10_behind_109 (Nat.le_refl _) (Nat.le_refl _) (kI_mk (by unfold bhF pyG gaE; (repeat' split) <;> first | rfl | (exfalso; omega)))
          · refine J_iload_n (pc1 := 90) rfl (i := 2) rfl dX10_behind_89 rfl ?_
            refine J_iconst (pc1 := 91) dX10_behind_90 rfl ?_
            refine J_iadd (pc1 := 92) dX10_behind_91 rfl ?_
            refine J_goto (tgt := 98) dX10_behind_92 rfl ?_
            refine J_iload (pc1 := 100) rfl dX10_behind_98 rfl ?_
            refine J_iload (pc1 := 102) rfl dX10_behind_100 rfl ?_
            refine J_iconst (pc1 := 103) dX10_behind_102 rfl ?_
            refine J_iload (pc1 := 105) rfl dX10_behind_103 rfl ?_
            refine J_isub (pc1 := 106) dX10_behind_105 rfl ?_
            refine J_callSI (pc1 := 109) (As := [.int (iI p), .int (iI (h + 1)), .int (iI (one + 0)), .int (iI (ot + 0)), .int (iI (1 - fi))]) gs_X10_53 yv_X10_at (c_X10_at) dX10_behind_106 rfl rfl rfl (by omega) (by decide) (by omega) (by omega) (Nat.le_of_ble_eq_true rfl) ?_
            exact J_iret rfl rfl dX10_behind_109 (Nat.le_refl _) (Nat.le_refl _) (kI_mk (by unfold bhF pyG gaE; (repeat' split) <;> first | rfl | (exfalso; omega)))
      · refine J_iload_n (pc1 := 51) rfl (i := 3) rfl dX10_behind_50 rfl ?_
        refine J_iload (pc1 := 53) rfl dX10_behind_51 rfl ?_
        refine J_isub (pc1 := 54) dX10_behind_53 rfl ?_
        refine J_goto (tgt := 61) dX10_behind_54 rfl ?_
        refine J_istore (pc1 := 63) (L1 := [some (.ref (B 0)), some (.int (iI p)), some (.int (iI h)), some (.int (iI one)), some (.int (iI ot)), some (.int (iI fi)), some (.int (iI b)), some (.int (iI a)), some (.int (iI (tkG (f 3) fi b a))), some (.int (iI b)), some (.int (iI 0)), some (.int (iI (one - b))), none]) dX10_behind_61 rfl (by decide) rfl rfl ?_
        refine J_iload (pc1 := 65) rfl dX10_behind_63 rfl ?_
        refine J_if_ne (pc1 := 68) (tgt := 76) (by omega) (by omega) dX10_behind_65 rfl rfl (fun hc22 => ?_) (fun hc22 => ?_)
        · refine J_iload (pc1 := 78) rfl dX10_behind_76 rfl ?_
          refine J_iload (pc1 := 80) rfl dX10_behind_78 rfl ?_
          refine J_isub (pc1 := 81) dX10_behind_80 rfl ?_
          refine J_istore (pc1 := 83) (L1 := [some (.ref (B 0)), some (.int (iI p)), some (.int (iI h)), some (.int (iI one)), some (.int (iI ot)), some (.int (iI fi)), some (.int (iI b)), some (.int (iI a)), some (.int (iI (tkG (f 3) fi b a))), some (.int (iI b)), some (.int (iI 0)), some (.int (iI (one - b))), some (.int (iI (ot - b)))]) dX10_behind_81 rfl (by decide) rfl rfl ?_
          refine J_iload_n (pc1 := 84) rfl (i := 1) rfl dX10_behind_83 rfl ?_
          refine J_iload (pc1 := 86) rfl dX10_behind_84 rfl ?_
          refine J_if_ne (pc1 := 89) (tgt := 95) (by omega) (by omega) dX10_behind_86 rfl rfl (fun hc23 => ?_) (fun hc23 => ?_)
          · refine J_iload_n (pc1 := 96) rfl (i := 2) rfl dX10_behind_95 rfl ?_
            refine J_iconst (pc1 := 97) dX10_behind_96 rfl ?_
            refine J_isub (pc1 := 98) dX10_behind_97 rfl ?_
            refine J_iload (pc1 := 100) rfl dX10_behind_98 rfl ?_
            refine J_iload (pc1 := 102) rfl dX10_behind_100 rfl ?_
            refine J_iconst (pc1 := 103) dX10_behind_102 rfl ?_
            refine J_iload (pc1 := 105) rfl dX10_behind_103 rfl ?_
            refine J_isub (pc1 := 106) dX10_behind_105 rfl ?_
            refine J_callSI (pc1 := 109) (As := [.int (iI p), .int (iI (h - 1)), .int (iI (one - b)), .int (iI (ot - b)), .int (iI (1 - fi))]) gs_X10_53 yv_X10_at (c_X10_at) dX10_behind_106 rfl rfl rfl (by omega) (by decide) (by omega) (by omega) (Nat.le_of_ble_eq_true rfl) ?_
            exact J_iret rfl rfl dX10_behind_109 (Nat.le_refl _) (Nat.le_refl _) (kI_mk (by unfold bhF pyG gaE; (repeat' split) <;> first | rfl | (exfalso; omega)))
          · refine J_iload_n (pc1 := 90) rfl (i := 2) rfl dX10_behind_89 rfl ?_
            refine J_iconst (pc1 := 91) dX10_behind_90 rfl ?_
            refine J_iadd (pc1 := 92) dX10_behind_91 rfl ?_
            refine J_goto (tgt := 98) dX10_behind_92 rfl ?_
            refine J_iload (pc1 := 100) rfl dX10_behind_98 rfl ?_
            refine J_iload (pc1 := 102) rfl dX10_behind_100 rfl ?_
            refine J_iconst (pc1 := 103) dX10_behind_102 rfl ?_
            refine J_iload (pc1 := 105) rfl dX10_behind_103 rfl ?_
            refine J_isub (pc1 := 106) dX10_behind_105 rfl ?_
            refine J_callSI (pc1 := 109) (As := [.int (iI p), .int (iI (h + 1)), .int (iI (one - b)), .int (iI (ot - b)), .int (iI (1 - fi))]) gs_X10_53 yv_X10_at (c_X10_at) dX10_behind_106 rfl rfl rfl (by omega) (by decide) (by omega) (by omega) (Nat.le_of_ble_eq_true rfl) ?_
            exact J_iret rfl rfl dX10_behind_109 (Nat.le_refl _) (Nat.le_refl _) (kI_mk (by unfold bhF pyG gaE; (repeat' split) <;> first | rfl | (exfalso; omega)))
        · refine J_iload (pc1 := 70) rfl dX10_behind_68 rfl ?_
          refine J_iload (pc1 := 72) rfl dX10_behind_70 rfl ?_
          refine J_iadd (pc1 := 73) dX10_behind_72 rfl ?_
          refine J_goto (tgt := 81) dX10_behind_73 rfl ?_
          refine J_istore (pc1 := 83) (L1 := [some (.ref (B 0)), some (.int (iI p)), some (.int (iI h)), some (.int (iI one)), some (.int (iI ot)), some (.int (iI fi)), some (.int (iI b)), some (.int (iI a)), some (.int (iI (tkG (f 3) fi b a))), some (.int (iI b)), some (.int (iI 0)), some (.int (iI (one - b))), some (.int (iI (ot + 0)))]) dX10_behind_81 rfl (by decide) rfl rfl ?_
          refine J_iload_n (pc1 := 84) rfl (i := 1) rfl dX10_behind_83 rfl ?_
          refine J_iload (pc1 := 86) rfl dX10_behind_84 rfl ?_
          refine J_if_ne (pc1 := 89) (tgt := 95) (by omega) (by omega) dX10_behind_86 rfl rfl (fun hc24 => ?_) (fun hc24 => ?_)
          · refine J_iload_n (pc1 := 96) rfl (i := 2) rfl dX10_behind_95 rfl ?_
            refine J_iconst (pc1 := 97) dX10_behind_96 rfl ?_
            refine J_isub (pc1 := 98) dX10_behind_97 rfl ?_
            refine J_iload (pc1 := 100) rfl dX10_behind_98 rfl ?_
            refine J_iload (pc1 := 102) rfl dX10_behind_100 rfl ?_
            refine J_iconst (pc1 := 103) dX10_behind_102 rfl ?_
            refine J_iload (pc1 := 105) rfl dX10_behind_103 rfl ?_
            refine J_isub (pc1 := 106) dX10_behind_105 rfl ?_
            refine J_callSI (pc1 := 109) (As := [.int (iI p), .int (iI (h - 1)), .int (iI (one - b)), .int (iI (ot + 0)), .int (iI (1 - fi))]) gs_X10_53 yv_X10_at (c_X10_at) dX10_behind_106 rfl rfl rfl (by omega) (by decide) (by omega) (by omega) (Nat.le_of_ble_eq_true rfl) ?_
            exact J_iret rfl rfl dX10_behind_109 (Nat.le_refl _) (Nat.le_refl _) (kI_mk (by unfold bhF pyG gaE; (repeat' split) <;> first | rfl | (exfalso; omega)))
          · refine J_iload_n (pc1 := 90) rfl (i := 2) rfl dX10_behind_89 rfl ?_
            refine J_iconst (pc1 := 91) dX10_behind_90 rfl ?_
            refine J_iadd (pc1 := 92) dX10_behind_91 rfl ?_
            refine J_goto (tgt := 98) dX10_behind_92 rfl ?_
            refine J_iload (pc1 := 100) rfl dX10_behind_98 rfl ?_
            refine J_iload (pc1 := 102) rfl dX10_behind_100 rfl ?_
            refine J_iconst (pc1 := 103) dX10_behind_102 rfl ?_
            refine J_iload (pc1 := 105) rfl dX10_behind_103 rfl ?_
            refine J_isub (pc1 := 106) dX10_behind_105 rfl ?_
            refine J_callSI (pc1 := 109) (As := [.int (iI p), .int (iI (h + 1)), .int (iI (one - b)), .int (iI (ot + 0)), .int (iI (1 - fi))]) gs_X10_53 yv_X10_at (c_X10_at) dX10_behind_106 rfl rfl rfl (by omega) (by decide) (by omega) (by omega) (Nat.le_of_ble_eq_true rfl) ?_
            exact J_iret rfl rfl dX10_behind_109 (Nat.le_refl _) (Nat.le_refl _) (kI_mk (by unfold bhF pyG gaE; (repeat' split) <;> first | rfl | (exfalso; omega)))
    · refine J_iload (pc1 := 39) rfl dX10_behind_37 rfl ?_
      refine J_goto (tgt := 43) dX10_behind_39 rfl ?_
      refine J_istore (pc1 := 45) (L1 := [some (.ref (B 0)), some (.int (iI p)), some (.int (iI h)), some (.int (iI one)), some (.int (iI ot)), some (.int (iI fi)), some (.int (iI b)), some (.int (iI a)), some (.int (iI (tkG (f 3) fi b a))), some (.int (iI b)), some (.int (iI b)), none, none]) dX10_behind_43 rfl (by decide) rfl rfl ?_
      refine J_iload (pc1 := 47) rfl dX10_behind_45 rfl ?_
      refine J_if_ne (pc1 := 50) (tgt := 57) (by omega) (by omega) dX10_behind_47 rfl rfl (fun hc25 => ?_) (fun hc25 => ?_)
      · refine J_iload_n (pc1 := 58) rfl (i := 3) rfl dX10_behind_57 rfl ?_
        refine J_iload (pc1 := 60) rfl dX10_behind_58 rfl ?_
        refine J_iadd (pc1 := 61) dX10_behind_60 rfl ?_
        refine J_istore (pc1 := 63) (L1 := [some (.ref (B 0)), some (.int (iI p)), some (.int (iI h)), some (.int (iI one)), some (.int (iI ot)), some (.int (iI fi)), some (.int (iI b)), some (.int (iI a)), some (.int (iI (tkG (f 3) fi b a))), some (.int (iI b)), some (.int (iI b)), some (.int (iI (one + b))), none]) dX10_behind_61 rfl (by decide) rfl rfl ?_
        refine J_iload (pc1 := 65) rfl dX10_behind_63 rfl ?_
        refine J_if_ne (pc1 := 68) (tgt := 76) (by omega) (by omega) dX10_behind_65 rfl rfl (fun hc26 => ?_) (fun hc26 => ?_)
        · refine J_iload (pc1 := 78) rfl dX10_behind_76 rfl ?_
          refine J_iload (pc1 := 80) rfl dX10_behind_78 rfl ?_
          refine J_isub (pc1 := 81) dX10_behind_80 rfl ?_
          refine J_istore (pc1 := 83) (L1 := [some (.ref (B 0)), some (.int (iI p)), some (.int (iI h)), some (.int (iI one)), some (.int (iI ot)), some (.int (iI fi)), some (.int (iI b)), some (.int (iI a)), some (.int (iI (tkG (f 3) fi b a))), some (.int (iI b)), some (.int (iI b)), some (.int (iI (one + b))), some (.int (iI (ot - b)))]) dX10_behind_81 rfl (by decide) rfl rfl ?_
          refine J_iload_n (pc1 := 84) rfl (i := 1) rfl dX10_behind_83 rfl ?_
          refine J_iload (pc1 := 86) rfl dX10_behind_84 rfl ?_
          refine J_if_ne (pc1 := 89) (tgt := 95) (by omega) (by omega) dX10_behind_86 rfl rfl (fun hc27 => ?_) (fun hc27 => ?_)
          · refine J_iload_n (pc1 := 96) rfl (i := 2) rfl dX10_behind_95 rfl ?_
            refine J_iconst (pc1 := 97) dX10_behind_96 rfl ?_
            refine J_isub (pc1 := 98) dX10_behind_97 rfl ?_
            refine J_iload (pc1 := 100) rfl dX10_behind_98 rfl ?_
            refine J_iload (pc1 := 102) rfl dX10_behind_100 rfl ?_
            refine J_iconst (pc1 := 103) dX10_behind_102 rfl ?_
            refine J_iload (pc1 := 105) rfl dX10_behind_103 rfl ?_
            refine J_isub (pc1 := 106) dX10_behind_105 rfl ?_
            refine J_callSI (pc1 := 109) (As := [.int (iI p), .int (iI (h - 1)), .int (iI (one + b)), .int (iI (ot - b)), .int (iI (1 - fi))]) gs_X10_53 yv_X10_at (c_X10_at) dX10_behind_106 rfl rfl rfl (by omega) (by decide) (by omega) (by omega) (Nat.le_of_ble_eq_true rfl) ?_
            exact J_iret rfl rfl dX10_behind_109 (Nat.le_refl _) (Nat.le_refl _) (kI_mk (by unfold bhF pyG gaE; (repeat' split) <;> first | rfl | (exfalso; omega)))
          · refine J_iload_n (pc1 := 90) rfl (i := 2) rfl dX10_behind_89 rfl ?_
            refine J_iconst (pc1 := 91) dX10_behind_90 rfl ?_
            refine J_iadd (pc1 := 92) dX10_behind_91 rfl ?_
            refine J_goto (tgt := 98) dX10_behind_92 rfl ?_
            refine J_iload (pc1 := 100) rfl dX10_behind_98 rfl ?_
            refine J_iload (pc1 := 102) rfl dX10_behind_100 rfl ?_
            refine J_iconst (pc1 := 103) dX10_behind_102 rfl ?_
            refine J_iload (pc1 := 105) rfl dX10_behind_103 rfl ?_
            refine J_isub (pc1 := 106) dX10_behind_105 rfl ?_
            refine J_callSI (pc1 := 109) (As := [.int (iI p), .int (iI (h + 1)), .int (iI (one + b)), .int (iI (ot - b)), .int (iI (1 - fi))]) gs_X10_53 yv_X10_at (c_X10_at) dX10_behind_106 rfl rfl rfl (by omega) (by decide) (by omega) (by omega) (Nat.le_of_ble_eq_true rfl) ?_
            exact J_iret rfl rfl dX10_behind_109 (Nat.le_refl _) (Nat.le_refl _) (kI_mk (by unfold bhF pyG gaE; (repeat' split) <;> first | rfl | (exfalso; omega)))
        · refine J_iload (pc1 := 70) rfl dX10_behind_68 rfl ?_
          refine J_iload (pc1 := 72) rfl dX10_behind_70 rfl ?_
          refine J_iadd (pc1 := 73) dX10_behind_72 rfl ?_
          refine J_goto (tgt := 81) dX10_behind_73 rfl ?_
          refine J_istore (pc1 := 83) (L1 := [some (.ref (B 0)), some (.int (iI p)), some (.int (iI h)), some (.int (iI one)), some (.int (iI ot)), some (.int (iI fi)), some (.int (iI b)), some (.int (iI a)), some (.int (iI (tkG (f 3) fi b a))), some (.int (iI b)), some (.int (iI b)), some (.int (iI (one + b))), some (.int (iI (ot + b)))]) dX10_behind_81 rfl (by decide) rfl rfl ?_
          refine J_iload_n (pc1 := 84) rfl (i := 1) rfl dX10_behind_83 rfl ?_
          refine J_iload (pc1 := 86) rfl dX10_behind_84 rfl ?_
          refine J_if_ne (pc1 := 89) (tgt := 95) (by omega) (by omega) dX10_behind_86 rfl rfl (fun hc28 => ?_) (fun hc28 => ?_)
          · refine J_iload_n (pc1 := 96) rfl (i := 2) rfl dX10_behind_95 rfl ?_
            refine J_iconst (pc1 := 97) dX10_behind_96 rfl ?_
            refine J_isub (pc1 := 98) dX10_behind_97 rfl ?_
            refine J_iload (pc1 := 100) rfl dX10_behind_98 rfl ?_
            refine J_iload (pc1 := 102) rfl dX10_behind_100 rfl ?_
            refine J_iconst (pc1 := 103) dX10_behind_102 rfl ?_
            refine J_iload (pc1 := 105) rfl dX10_behind_103 rfl ?_
            refine J_isub (pc1 := 106) dX10_behind_105 rfl ?_
            refine J_callSI (pc1 := 109) (As := [.int (iI p), .int (iI (h - 1)), .int (iI (one + b)), .int (iI (ot + b)), .int (iI (1 - fi))]) gs_X10_53 yv_X10_at (c_X10_at) dX10_behind_106 rfl rfl rfl (by omega) (by decide) (by omega) (by omega) (Nat.le_of_ble_eq_true rfl) ?_
            exact J_iret rfl rfl dX10_behind_109 (Nat.le_refl _) (Nat.le_refl _) (kI_mk (by unfold bhF pyG gaE; (repeat' split) <;> first | rfl | (exfalso; omega)))
          · refine J_iload_n (pc1 := 90) rfl (i := 2) rfl dX10_behind_89 rfl ?_
            refine J_iconst (pc1 := 91) dX10_behind_90 rfl ?_
            refine J_iadd (pc1 := 92) dX10_behind_91 rfl ?_
            refine J_goto (tgt := 98) dX10_behind_92 rfl ?_
            refine J_iload (pc1 := 100) rfl dX10_behind_98 rfl ?_
            refine J_iload (pc1 := 102) rfl dX10_behind_100 rfl ?_
            refine J_iconst (pc1 := 103) dX10_behind_102 rfl ?_
            refine J_iload (pc1 := 105) rfl dX10_behind_103 rfl ?_
            refine J_isub (pc1 := 106) dX10_behind_105 rfl ?_
            refine J_callSI (pc1 := 109) (As := [.int (iI p), .int (iI (h + 1)), .int (iI (one + b)), .int (iI (ot + b)), .int (iI (1 - fi))]) gs_X10_53 yv_X10_at (c_X10_at) dX10_behind_106 rfl rfl rfl (by omega) (by decide) (by omega) (by omega) (Nat.le_of_ble_eq_true rfl) ?_
            exact J_iret rfl rfl dX10_behind_109 (Nat.le_refl _) (Nat.le_refl _) (kI_mk (by unfold bhF pyG gaE; (repeat' split) <;> first | rfl | (exfalso; omega)))
      · refine J_iload_n (pc1 := 51) rfl (i := 3) rfl dX10_behind_50 rfl ?_
        refine J_iload (pc1 := 53) rfl dX10_behind_51 rfl ?_
        refine J_isub (pc1 := 54) dX10_behind_53 rfl ?_
        refine J_goto (tgt := 61) dX10_behind_54 rfl ?_
        refine J_istore (pc1 := 63) (L1 := [some (.ref (B 0)), some (.int (iI p)), some (.int (iI h)), some (.int (iI one)), some (.int (iI ot)), some (.int (iI fi)), some (.int (iI b)), some (.int (iI a)), some (.int (iI (tkG (f 3) fi b a))), some (.int (iI b)), some (.int (iI b)), some (.int (iI (one - b))), none]) dX10_behind_61 rfl (by decide) rfl rfl ?_
        refine J_iload (pc1 := 65) rfl dX10_behind_63 rfl ?_
        refine J_if_ne (pc1 := 68) (tgt := 76) (by omega) (by omega) dX10_behind_65 rfl rfl (fun hc29 => ?_) (fun hc29 => ?_)
        · refine J_iload (pc1 := 78) rfl dX10_behind_76 rfl ?_
          refine J_iload (pc1 := 80) rfl dX10_behind_78 rfl ?_
          refine J_isub (pc1 := 81) dX10_behind_80 rfl ?_
          refine J_istore (pc1 := 83) (L1 := [some (.ref (B 0)), some (.int (iI p)), some (.int (iI h)), some (.int (iI one)), some (.int (iI ot)), some (.int (iI fi)), some (.int (iI b)), some (.int (iI a)), some (.int (iI (tkG (f 3) fi b a))), some (.int (iI b)), some (.int (iI b)), some (.int (iI (one - b))), some (.int (iI (ot - b)))]) dX10_behind_81 rfl (by decide) rfl rfl ?_
          refine J_iload_n (pc1 := 84) rfl (i := 1) rfl dX10_behind_83 rfl ?_
          refine J_iload (pc1 := 86) rfl dX10_behind_84 rfl ?_
          refine J_if_ne (pc1 := 89) (tgt := 95) (by omega) (by omega) dX10_behind_86 rfl rfl (fun hc30 => ?_) (fun hc30 => ?_)
          · refine J_iload_n (pc1 := 96) rfl (i := 2) rfl dX10_behind_95 rfl ?_
            refine J_iconst (pc1 := 97) dX10_behind_96 rfl ?_
            refine J_isub (pc1 := 98) dX10_behind_97 rfl ?_
            refine J_iload (pc1 := 100) rfl dX10_behind_98 rfl ?_
            refine J_iload (pc1 := 102) rfl dX10_behind_100 rfl ?_
            refine J_iconst (pc1 := 103) dX10_behind_102 rfl ?_
            refine J_iload (pc1 := 105) rfl dX10_behind_103 rfl ?_
            refine J_isub (pc1 := 106) dX10_behind_105 rfl ?_
            refine J_callSI (pc1 := 109) (As := [.int (iI p), .int (iI (h - 1)), .int (iI (one - b)), .int (iI (ot - b)), .int (iI (1 - fi))]) gs_X10_53 yv_X10_at (c_X10_at) dX10_behind_106 rfl rfl rfl (by omega) (by decide) (by omega) (by omega) (Nat.le_of_ble_eq_true rfl) ?_
            exact J_iret rfl rfl dX10_behind_109 (Nat.le_refl _) (Nat.le_refl _) (kI_mk (by unfold bhF pyG gaE; (repeat' split) <;> first | rfl | (exfalso; omega)))
          · refine J_iload_n (pc1 := 90) rfl (i := 2) rfl dX10_behind_89 rfl ?_
            refine J_iconst (pc1 := 91) dX10_behind_90 rfl ?_
            refine J_iadd (pc1 := 92) dX10_behind_91 rfl ?_
            refine J_goto (tgt := 98) dX10_behind_92 rfl ?_
            refine J_iload (pc1 := 100) rfl dX10_behind_98 rfl ?_
            refine J_iload (pc1 := 102) rfl dX10_behind_100 rfl ?_
            refine J_iconst (pc1 := 103) dX10_behind_102 rfl ?_
            refine J_iload (pc1 := 105) rfl dX10_behind_103 rfl ?_
            refine J_isub (pc1 := 106) dX10_behind_105 rfl ?_
            refine J_callSI (pc1 := 109) (As := [.int (iI p), .int (iI (h + 1)), .int (iI (one - b)), .int (iI (ot - b)), .int (iI (1 - fi))]) gs_X10_53 yv_X10_at (c_X10_at) dX10_behind_106 rfl rfl rfl (by omega) (by decide) (by omega) (by omega) (Nat.le_of_ble_eq_true rfl) ?_
            exact J_iret rfl rfl dX10_behind_109 (Nat.le_refl _) (Nat.le_refl _) (kI_mk (by unfold bhF pyG gaE; (repeat' split) <;> first | rfl | (exfalso; omega)))
        · refine J_iload (pc1 := 70) rfl dX10_behind_68 rfl ?_
          refine J_iload (pc1 := 72) rfl dX10_behind_70 rfl ?_
          refine J_iadd (pc1 := 73) dX10_behind_72 rfl ?_
          refine J_goto (tgt := 81) dX10_behind_73 rfl ?_
          refine J_istore (pc1 := 83) (L1 := [some (.ref (B 0)), some (.int (iI p)), some (.int (iI h)), some (.int (iI one)), some (.int (iI ot)), some (.int (iI fi)), some (.int (iI b)), some (.int (iI a)), some (.int (iI (tkG (f 3) fi b a))), some (.int (iI b)), some (.int (iI b)), some (.int (iI (one - b))), some (.int (iI (ot + b)))]) dX10_behind_81 rfl (by decide) rfl rfl ?_
          refine J_iload_n (pc1 := 84) rfl (i := 1) rfl dX10_behind_83 rfl ?_
          refine J_iload (pc1 := 86) rfl dX10_behind_84 rfl ?_
          refine J_if_ne (pc1 := 89) (tgt := 95) (by omega) (by omega) dX10_behind_86 rfl rfl (fun hc31 => ?_) (fun hc31 => ?_)
          · refine J_iload_n (pc1 := 96) rfl (i := 2) rfl dX10_behind_95 rfl ?_
            refine J_iconst (pc1 := 97) dX10_behind_96 rfl ?_
            refine J_isub (pc1 := 98) dX10_behind_97 rfl ?_
            refine J_iload (pc1 := 100) rfl dX10_behind_98 rfl ?_
            refine J_iload (pc1 := 102) rfl dX10_behind_100 rfl ?_
            refine J_iconst (pc1 := 103) dX10_behind_102 rfl ?_
            refine J_iload (pc1 := 105) rfl dX10_behind_103 rfl ?_
            refine J_isub (pc1 := 106) dX10_behind_105 rfl ?_
            refine J_callSI (pc1 := 109) (As := [.int (iI p), .int (iI (h - 1)), .int (iI (one - b)), .int (iI (ot + b)), .int (iI (1 - fi))]) gs_X10_53 yv_X10_at (c_X10_at) dX10_behind_106 rfl rfl rfl (by omega) (by decide) (by omega) (by omega) (Nat.le_of_ble_eq_true rfl) ?_
            exact J_iret rfl rfl dX10_behind_109 (Nat.le_refl _) (Nat.le_refl _) (kI_mk (by unfold bhF pyG gaE; (repeat' split) <;> first | rfl | (exfalso; omega)))
          · refine J_iload_n (pc1 := 90) rfl (i := 2) rfl dX10_behind_89 rfl ?_
            refine J_iconst (pc1 := 91) dX10_behind_90 rfl ?_
            refine J_iadd (pc1 := 92) dX10_behind_91 rfl ?_
            refine J_goto (tgt := 98) dX10_behind_92 rfl ?_
            refine J_iload (pc1 := 100) rfl dX10_behind_98 rfl ?_
            refine J_iload (pc1 := 102) rfl dX10_behind_100 rfl ?_
            refine J_iconst (pc1 := 103) dX10_behind_102 rfl ?_
            refine J_iload (pc1 := 105) rfl dX10_behind_103 rfl ?_
            refine J_isub (pc1 := 106) dX10_behind_105 rfl ?_
            refine J_callSI (pc1 := 109) (As := [.int (iI p), .int (iI (h + 1)), .int (iI (one - b)), .int (iI (ot + b)), .int (iI (1 - fi))]) gs_X10_53 yv_X10_at (c_X10_at) dX10_behind_106 rfl rfl rfl (by omega) (by decide) (by omega) (by omega) (Nat.le_of_ble_eq_true rfl) ?_
            exact J_iret rfl rfl dX10_behind_109 (Nat.le_refl _) (Nat.le_refl _) (kI_mk (by unfold bhF pyG gaE; (repeat' split) <;> first | rfl | (exfalso; omega)))
