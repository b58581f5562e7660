/-! 14.pad: longs by their number, Pad -/
theorem nI_iI (n : Nat) : nI n = iI n := by
  unfold nI iI
  exact (Int32.ofInt_eq_ofNat (n := n)).symm
theorem lN_bv (n : Nat) : (lN n).toBitVec = BitVec.ofNat 64 n := rfl
theorem lN_ofbv (x : Int64) : x = lN x.toBitVec.toNat := by
  apply Int64.toBitVec.inj
  rw [lN_bv, BitVec.ofNat_toNat, BitVec.setWidth_eq]
theorem lN_and {x : Nat} : lN x &&& 255 = lN (x % 256) := by
  apply Int64.toBitVec.inj
  rw [Int64.toBitVec_and, lN_bv, lN_bv]
  apply BitVec.eq_of_toNat_eq
  rw [BitVec.toNat_and, BitVec.toNat_ofNat, BitVec.toNat_ofNat]
  show x % 2 ^ 64 &&& 255 = _
  rw [show (255 : Nat) = 2 ^ 8 - 1 from rfl, Nat.and_two_pow_sub_one_eq_mod]
  omega
theorem lN_ushr {x : Nat} (hx : x < 2 ^ 64) {s : Int} (h0 : 0 ≤ s) (h1 : s < 64) : ((lN x).toUInt64 >>> ((iI s).toInt64.toUInt64 &&& Int64.toUInt64 63)).toInt64 = lN (x / 2 ^ s.toNat) := by
  obtain ⟨k, rfl⟩ : ∃ k : Nat, s = k := ⟨s.toNat, by omega⟩
  have hk : k < 64 := by omega
  have e1 : (iI (k : Int)).toInt64 = lN k := by
    rw [← nI_iI]
    exact nI_l (by omega)
  rw [e1]
  have e2 : ((lN k).toUInt64 &&& Int64.toUInt64 63) = UInt64.ofNat k := by
    apply UInt64.toNat_inj.mp
    rw [UInt64.toNat_and]
    show (lN k).toBitVec.toNat &&& 63 = _
    rw [lN_bv, BitVec.toNat_ofNat, show (63 : Nat) = 2 ^ 6 - 1 from rfl, Nat.and_two_pow_sub_one_eq_mod, UInt64.toNat_ofNat']
    omega
  rw [e2]
  apply Int64.toBitVec.inj
  rw [lN_bv]
  apply BitVec.eq_of_toNat_eq
  show ((lN x).toUInt64 >>> UInt64.ofNat k).toNat = _
  rw [UInt64.toNat_shiftRight, UInt64.toNat_ofNat', BitVec.toNat_ofNat]
  show (lN x).toBitVec.toNat >>> _ = _
  rw [lN_bv, BitVec.toNat_ofNat, Nat.mod_eq_of_lt hx, show k % 2 ^ 64 % 64 = k by omega, Nat.shiftRight_eq_div_pow]
  have : x / 2 ^ k ≤ x := Nat.div_le_self _ _
  have e3 : ((k : Int)).toNat = k := rfl
  rw [e3, Nat.mod_eq_of_lt (by omega)]
theorem lN_i32 {x : Nat} : (lN x).toInt32 = iI x := by rw [lN_i, nI_iI]
theorem lN_inj {x y : Nat} (hx : x < 2 ^ 64) (hy : y < 2 ^ 64) : lN x = lN y ↔ x = y := by
  refine ⟨fun h => ?_, fun h => by rw [h]⟩
  have h1 := congrArg (fun z => z.toBitVec.toNat) h
  simp only [lN_bv, BitVec.toNat_ofNat] at h1
  omega
theorem lN_0 : (0 : Int64) = lN 0 := rfl
def lcZ (a b : Int64) : Int := if b < a then 1 else if a = b then 0 else -1
theorem lcZ_e (a b : Int64) : lg_cmp a b = iI (lcZ a b) := by
  unfold lg_cmp lcZ
  simp only [gt_iff_lt]
  split
  · rfl
  · split <;> rfl
theorem lcZ_b (a b : Int64) : -1 ≤ lcZ a b ∧ lcZ a b ≤ 1 := by unfold lcZ; (repeat' split) <;> omega
theorem lcZ_0 {x : Nat} (hx : x < 2 ^ 64) : lcZ (lN x) 0 = 0 ↔ x = 0 := by
  have h := lN_inj hx (show (0 : Nat) < 2 ^ 64 by decide)
  unfold lcZ
  split
  · next q =>
    refine ⟨fun z => by omega, fun z => ?_⟩
    subst z
    exact absurd q (by decide)
  · split
    · next q => exact ⟨fun _ => h.mp q, fun _ => rfl⟩
    · next q => exact ⟨fun z => by omega, fun z => absurd (h.mpr z) q⟩
theorem J_lcmpZ {y : MethodName} {cc : ByteArray} {nL : Nat} {rt : Option FieldType} {d tc ts : Nat} {K : Option Value → pS → Prop} {c0 s0 : Nat} {S : pS} {pc pc1 : Nat} {L : List (Option Value)} {st : List Value} {a b : Int64} (hd : decode cc pc = .ok (.lcmp, 1)) (hp : pc + 1 = pc1) (k : Jd y cc nL rt d tc ts K c0 s0 S pc1 L (.int (iI (lcZ a b)) :: st)) : Jd y cc nL rt d tc ts K c0 s0 S pc L (.long b :: .long a :: st) := J_lcmp (lcZ_e a b) hd hp k
/-- how many characters a number gives: as it is read from its lowest eight bits on -/
def csF : Nat → Nat → Nat → Int
  | 0, n, _ => n
  | r + 1, n, x => if x = 0 then n else if x % 256 < 33 ∨ 126 < x % 256 then 0 else csF r (n + 1) (x / 256)
theorem csF_b : ∀ (r n x : Nat), 0 ≤ csF r n x ∧ csF r n x ≤ n + r := by
  intro r
  induction r with
  | zero => intro n x; exact ⟨Int.natCast_nonneg n, Int.le_refl _⟩
  | succ r ih =>
    intro n x
    unfold csF
    have := ih (n + 1) (x / 256)
    split
    · omega
    · split <;> omega
/-- the pad behind append -/
def apF (tx : Int → Int) (L n x j : Nat) : Int → Int := fun k => if (L : Int) ≤ k ∧ k < L + j then ((x / 2 ^ (8 * (n - 1 - (k - L).toNat)) % 256 : Nat) : Int) else tx k
theorem apF_0 (tx : Int → Int) (L n x : Nat) : apF tx L n x 0 = tx := by
  funext k
  unfold apF
  rw [if_neg (by omega)]
theorem apF_s (tx : Int → Int) {L n x j : Nat} (hj : j < n) : uZ (apF tx L n x j) ((L + j : Nat) : Int) ((x / 2 ^ (8 * (n - 1 - j)) % 256 : Nat) : Int) = apF tx L n x (j + 1) := by
  funext k
  unfold uZ
  by_cases hk : k = ((L + j : Nat) : Int)
  · rw [if_pos hk]
    unfold apF
    rw [if_pos (by omega), show (k - (L : Int)).toNat = j by omega]
  · rw [if_neg hk]
    unfold apF
    by_cases h2 : (L : Int) ≤ k ∧ k < L + j
    · rw [if_pos h2, if_pos (by omega)]
    · rw [if_neg h2, if_neg (by omega)]
def cdF (c d : Int) : Prop := (d = 0 ∧ 48 ≤ c ∧ c ≤ 57) ∨ (d = 1 ∧ 48 ≤ c ∧ c ≤ 52)
/-- the fault of a text, from i on, n characters being left; ia: in an answer, d: digits so far (1: a one) -/
noncomputable def dfa (tx : Int → Int) : Nat → Int → Int → Int → Int
  | 0, i, ia, d => if ia = 1 ∧ ¬ d = 0 then -1006 else i
  | n + 1, i, ia, d => @ite _ (cdF (tx i) d) (Classical.propDecidable _) (dfa tx n (i + 1) ia (if tx i = 49 ∧ d = 0 then 1 else 2)) (if ¬ d = 0 ∧ tx i = (if ia = 1 then 44 else 58) then dfa tx n (i + 1) (1 - ia) 0 else i)
def PadOK (S : pS) (p pa : Nat) (tx : Int → Int) (L : Nat) : Prop := S p = some (oO 5 [.ref pa, .int (iI (L : Int))]) ∧ S pa = some (aI 60 tx) ∧ L ≤ 60 ∧ ∀ i : Int, 0 ≤ tx i ∧ tx i ≤ 255
set_option maxHeartbeats 400000 in
set_option maxRecDepth 20000 in
theorem c_X5_init {S : pS} {p : Nat} (hp : S p = some (oO 5 [.null, .int (iI 0)])) : Ct yX5_init cX5_init 1 none 1 1 60 [.ref p] S (kNS (fun T => ∃ pa, PadOK T p pa (fun _ => 0) 0 ∧ S pa = none ∧ ∀ a, S a ≠ none → a ≠ p → T a = S a)) := by
  refine Ct.ofJ (by decide +kernel) (Nat.le_of_ble_eq_true rfl) ?_
  refine J_L (L1 := [some (.ref p)]) rfl ?_
  refine J_aload_n (pc1 := 1) rfl (i := 0) rfl dX5_init_0 rfl ?_
  refine J_objInit (pc1 := 4) lm_X5_3 li_init_Object lc_init_Object dX5_init_1 rfl (by omega) (by decide) ?_
  refine J_aload_n (pc1 := 5) rfl (i := 0) rfl dX5_init_4 rfl ?_
  refine J_bipush (pc1 := 7) (by decide) dX5_init_5 rfl ?_
  refine J_newI (pc1 := 9) (n := 60) la_int dX5_init_7 rfl rfl (by omega) (by omega) (by omega) (fun q1 n1 => ?_)
  have e_p_q1 : p ≠ q1 := ne_N hp n1
  refine J_putF (pc1 := 12) (ty := (.array .int)) (j := 0) (fs1 := [.ref q1, .int (iI 0)]) inUX5 (ci := 5) rfl (by decide) tyX5 tyX5_ok nmX5 rfl rfl rfl (by decide +kernel) lf_X5_9 dX5_init_9 rfl ((pu_ne _ _ e_p_q1).trans hp) rfl (by rfl) (Nat.le_of_ble_eq_true rfl) rfl ?_
  exact J_vret rfl dX5_init_12 (by omega) (by omega) (⟨rfl, q1, ⟨(pu_self _ _ _), ((pu_ne _ _ (Ne.symm e_p_q1)).trans (pu_self _ _ _)), by omega, fun i => ⟨Int.le_refl 0, (by decide : (0 : Int) ≤ 255)⟩⟩, n1, fun a a1 a2 => ((pu_ne _ _ a2).trans (pu_ne _ _ (fun z9 => a1 (by rw [z9]; exact n1))))⟩)
set_option maxHeartbeats 400000 in
set_option maxRecDepth 20000 in
theorem c_X5_clear {S : pS} {p pa L : Nat} {tx : Int → Int} (hP : PadOK S p pa tx L) : Ct yX5_clear cX5_clear 1 none 0 0 0 [.ref p] S (kN (pu S p (oO 5 [.ref pa, .int (iI ((0 : Nat) : Int))]))) := by
  refine Ct.ofJ (by decide +kernel) (Nat.le_of_ble_eq_true rfl) ?_
  refine J_L (L1 := [some (.ref p)]) rfl ?_
  refine J_aload_n (pc1 := 1) rfl (i := 0) rfl dX5_clear_0 rfl ?_
  refine J_iconst (pc1 := 2) dX5_clear_1 rfl ?_
  refine J_put (pc1 := 5) (ty := .int) (j := 1) (fs1 := [.ref pa, .int (iI 0)]) inUX5 (ci := 5) rfl (by decide) tyX5 tyX5_ok nmX5 rfl (by decide +kernel) lf_X5_17 dX5_clear_2 rfl hP.1 rfl (by rfl) (Nat.le_of_ble_eq_true rfl) rfl ?_
  exact J_vret rfl dX5_clear_5 (Nat.le_refl _) (Nat.le_refl _) (kN_mk rfl)
set_option maxHeartbeats 400000 in
set_option maxRecDepth 20000 in
theorem c_X5_signAt {S : pS} {p pa L : Nat} {tx : Int → Int} (hP : PadOK S p pa tx L) {i : Int} (hi : 0 ≤ i ∧ i < 60) : Ct yX5_signAt cX5_signAt 2 (Option.some FieldType.int) 0 0 0 [.ref p, .int (iI i)] S (kI (tx i) S) := by
  obtain ⟨p1, p2, p3, p4⟩ := id hP
  refine Ct.ofJ (by decide +kernel) (Nat.le_of_ble_eq_true rfl) ?_
  refine J_L (L1 := [some (.ref p), some (.int (iI i))]) rfl ?_
  refine J_iload_n (pc1 := 1) rfl (i := 1) rfl dX5_signAt_0 rfl ?_
  refine J_if_lt (pc1 := 4) (tgt := 22) (by omega) (by omega) dX5_signAt_1 rfl rfl (fun hc1 => ?_) (fun hc1 => ?_)
  · refine J_iconst (pc1 := 23) dX5_signAt_22 rfl ?_
    exact J_iret rfl rfl dX5_signAt_23 (Nat.le_refl _) (Nat.le_refl _) (kI_mk (by first | rfl | (exfalso; omega)))
  · refine J_iload_n (pc1 := 5) rfl (i := 1) rfl dX5_signAt_4 rfl ?_
    refine J_aload_n (pc1 := 6) rfl (i := 0) rfl dX5_signAt_5 rfl ?_
    refine J_get (pc1 := 9) (j := 0) inUX5 (ci := 5) rfl (by decide) lf_X5_9 dX5_signAt_6 rfl hP.1 rfl ?_
    refine J_alenI (pc1 := 10) dX5_signAt_9 rfl hP.2.1 ?_
    refine J_icmp_ge (pc1 := 13) (tgt := 22) (by omega) (by omega) (by decide) (by decide) dX5_signAt_10 rfl rfl (fun hc2 => ?_) (fun hc2 => ?_)
    · refine J_iconst (pc1 := 23) dX5_signAt_22 rfl ?_
      exact J_iret rfl rfl dX5_signAt_23 (Nat.le_refl _) (Nat.le_refl _) (kI_mk (by first | rfl | (exfalso; omega)))
    · refine J_aload_n (pc1 := 14) rfl (i := 0) rfl dX5_signAt_13 rfl ?_
      refine J_get (pc1 := 17) (j := 0) inUX5 (ci := 5) rfl (by decide) lf_X5_9 dX5_signAt_14 rfl hP.1 rfl ?_
      refine J_iload_n (pc1 := 18) rfl (i := 1) rfl dX5_signAt_17 rfl ?_
      refine J_iald (pc1 := 19) dX5_signAt_18 rfl hP.2.1 (by omega) (by omega) (by omega) ?_
      refine J_goto (tgt := 23) dX5_signAt_19 rfl ?_
      exact J_iret rfl rfl dX5_signAt_23 (Nat.le_refl _) (Nat.le_refl _) (kI_mk (by first | rfl | (exfalso; omega)))
set_option maxHeartbeats 400000 in
set_option maxRecDepth 20000 in
theorem c_X5_canStandAsDigit {S : pS} {c d : Int} (hc : 0 ≤ c ∧ c ≤ 255) (hd : 0 ≤ d ∧ d ≤ 2) : Ct yX5_canStandAsDigit cX5_canStandAsDigit 2 (Option.some FieldType.boolean) 0 0 0 [.int (iI c), .int (iI d)] S (kI (bC (cdF c d)) S) := by
  refine Ct.ofJ (by decide +kernel) (Nat.le_of_ble_eq_true rfl) ?_
  refine J_L (L1 := [some (.int (iI c)), some (.int (iI d))]) rfl ?_
  refine J_iload_n (pc1 := 1) rfl (i := 1) rfl dX5_canStandAsDigit_0 rfl ?_
  refine J_if_ne (pc1 := 4) (tgt := 22) (by omega) (by omega) dX5_canStandAsDigit_1 rfl rfl (fun hc1 => ?_) (fun hc1 => ?_)
  · refine J_iload_n (pc1 := 23) rfl (i := 1) rfl dX5_canStandAsDigit_22 rfl ?_
    refine J_iconst (pc1 := 24) dX5_canStandAsDigit_23 rfl ?_
    refine J_icmp_ne (pc1 := 27) (tgt := 43) (by omega) (by omega) (by decide) (by decide) dX5_canStandAsDigit_24 rfl rfl (fun hc2 => ?_) (fun hc2 => ?_)
    · refine J_iconst (pc1 := 44) dX5_canStandAsDigit_43 rfl ?_
      exact J_iret rfl rfl dX5_canStandAsDigit_44 (Nat.le_refl _) (Nat.le_refl _) (kI_mk (by unfold cdF; first | exact (bC_t (by omega)).symm | exact (bC_f (by omega)).symm))
    · refine J_iload_n (pc1 := 28) rfl (i := 0) rfl dX5_canStandAsDigit_27 rfl ?_
      refine J_bipush (pc1 := 30) (by decide) dX5_canStandAsDigit_28 rfl ?_
      refine J_icmp_lt (pc1 := 33) (tgt := 43) (by omega) (by omega) (by decide) (by decide) dX5_canStandAsDigit_30 rfl rfl (fun hc3 => ?_) (fun hc3 => ?_)
      · refine J_iconst (pc1 := 44) dX5_canStandAsDigit_43 rfl ?_
        exact J_iret rfl rfl dX5_canStandAsDigit_44 (Nat.le_refl _) (Nat.le_refl _) (kI_mk (by unfold cdF; first | exact (bC_t (by omega)).symm | exact (bC_f (by omega)).symm))
      · refine J_iload_n (pc1 := 34) rfl (i := 0) rfl dX5_canStandAsDigit_33 rfl ?_
        refine J_bipush (pc1 := 36) (by decide) dX5_canStandAsDigit_34 rfl ?_
        refine J_icmp_gt (pc1 := 39) (tgt := 43) (by omega) (by omega) (by decide) (by decide) dX5_canStandAsDigit_36 rfl rfl (fun hc4 => ?_) (fun hc4 => ?_)
        · refine J_iconst (pc1 := 44) dX5_canStandAsDigit_43 rfl ?_
          exact J_iret rfl rfl dX5_canStandAsDigit_44 (Nat.le_refl _) (Nat.le_refl _) (kI_mk (by unfold cdF; first | exact (bC_t (by omega)).symm | exact (bC_f (by omega)).symm))
        · refine J_iconst (pc1 := 40) dX5_canStandAsDigit_39 rfl ?_
          refine J_goto (tgt := 44) dX5_canStandAsDigit_40 rfl ?_
          exact J_iret rfl rfl dX5_canStandAsDigit_44 (Nat.le_refl _) (Nat.le_refl _) (kI_mk (by unfold cdF; first | exact (bC_t (by omega)).symm | exact (bC_f (by omega)).symm))
  · refine J_iload_n (pc1 := 5) rfl (i := 0) rfl dX5_canStandAsDigit_4 rfl ?_
    refine J_bipush (pc1 := 7) (by decide) dX5_canStandAsDigit_5 rfl ?_
    refine J_icmp_lt (pc1 := 10) (tgt := 20) (by omega) (by omega) (by decide) (by decide) dX5_canStandAsDigit_7 rfl rfl (fun hc5 => ?_) (fun hc5 => ?_)
    · refine J_iconst (pc1 := 21) dX5_canStandAsDigit_20 rfl ?_
      exact J_iret rfl rfl dX5_canStandAsDigit_21 (Nat.le_refl _) (Nat.le_refl _) (kI_mk (by unfold cdF; first | exact (bC_t (by omega)).symm | exact (bC_f (by omega)).symm))
    · refine J_iload_n (pc1 := 11) rfl (i := 0) rfl dX5_canStandAsDigit_10 rfl ?_
      refine J_bipush (pc1 := 13) (by decide) dX5_canStandAsDigit_11 rfl ?_
      refine J_icmp_gt (pc1 := 16) (tgt := 20) (by omega) (by omega) (by decide) (by decide) dX5_canStandAsDigit_13 rfl rfl (fun hc6 => ?_) (fun hc6 => ?_)
      · refine J_iconst (pc1 := 21) dX5_canStandAsDigit_20 rfl ?_
        exact J_iret rfl rfl dX5_canStandAsDigit_21 (Nat.le_refl _) (Nat.le_refl _) (kI_mk (by unfold cdF; first | exact (bC_t (by omega)).symm | exact (bC_f (by omega)).symm))
      · refine J_iconst (pc1 := 17) dX5_canStandAsDigit_16 rfl ?_
        refine J_goto (tgt := 21) dX5_canStandAsDigit_17 rfl ?_
        exact J_iret rfl rfl dX5_canStandAsDigit_21 (Nat.le_refl _) (Nat.le_refl _) (kI_mk (by unfold cdF; first | exact (bC_t (by omega)).symm | exact (bC_f (by omega)).symm))
set_option maxHeartbeats 400000 in
set_option maxRecDepth 20000 in
theorem c_X5_countSigns {S : pS} {x : Nat} (hx : x < 2 ^ 64) : Ct yX5_countSigns cX5_countSigns 6 (Option.some FieldType.int) 0 0 0 [.long (lN x)] S (kI (csF 8 0 x) S) := by
  refine Ct.ofJ (by decide +kernel) (Nat.le_of_ble_eq_true rfl) ?_
  refine J_L (L1 := [some (.long (lN x)), none, none, none, none, none]) rfl ?_
  have LP : ∀ (r n z : Nat), n + r = 8 → z < 2 ^ 64 → csF r n z = csF 8 0 x → Jd yX5_countSigns cX5_countSigns 6 (Option.some FieldType.int) 0 0 0 (kI (csF 8 0 x) S) 0 0 S 4 [some (.long (lN x)), none, some (.int (iI (n : Int))), some (.long (lN z)), none, none] [] := by
    intro r
    induction r with
    | zero =>
      intro n z h1 hx64 h2
      refine J_iload_n (pc1 := 5) rfl (i := 2) rfl dX5_countSigns_4 rfl ?_
      refine J_bipush (pc1 := 7) (by decide) dX5_countSigns_5 rfl ?_
      refine J_icmp_ge (pc1 := 10) (tgt := 51) (by omega) (by omega) (by decide) (by decide) dX5_countSigns_7 rfl rfl (fun hc1 => ?_) (fun hc1 => ?_)
      · refine J_iload_n (pc1 := 52) rfl (i := 2) rfl dX5_countSigns_51 rfl ?_
        exact J_iret rfl rfl dX5_countSigns_52 (Nat.le_refl _) (Nat.le_refl _) (kI_mk h2)
      · exact absurd (by omega) hc1
    | succ r ih =>
      intro n z h1 hx64 h2
      have h2 : (if z = 0 then (n : Int) else if z % 256 < 33 ∨ 126 < z % 256 then 0 else csF r (n + 1) (z / 256)) = csF 8 0 x := h2
      refine J_iload_n (pc1 := 5) rfl (i := 2) rfl dX5_countSigns_4 rfl ?_
      refine J_bipush (pc1 := 7) (by decide) dX5_countSigns_5 rfl ?_
      refine J_icmp_ge (pc1 := 10) (tgt := 51) (by omega) (by omega) (by decide) (by decide) dX5_countSigns_7 rfl rfl (fun hc2 => ?_) (fun hc2 => ?_)
      · exact absurd hc2 (by omega)
      · refine J_lload_n (pc1 := 11) rfl (i := 3) rfl dX5_countSigns_10 rfl ?_
        refine J_lconst (pc1 := 12) (v := 0) (by decide) dX5_countSigns_11 rfl ?_
        have hlc := lcZ_b (lN z) 0
        refine J_lcmpZ (pc1 := 13) dX5_countSigns_12 rfl ?_
        refine J_if_eq (pc1 := 16) (tgt := 51) (by omega) (by omega) dX5_countSigns_13 rfl rfl (fun hc3 => ?_) (fun hc3 => ?_)
        · refine J_iload_n (pc1 := 52) rfl (i := 2) rfl dX5_countSigns_51 rfl ?_
          exact J_iret rfl rfl dX5_countSigns_52 (Nat.le_refl _) (Nat.le_refl _) (kI_mk (by rw [← h2, if_pos ((lcZ_0 hx64).mp (by assumption))]))
        · refine J_lload_n (pc1 := 17) rfl (i := 3) rfl dX5_countSigns_16 rfl ?_
          refine J_ldc2 (pc1 := 20) lq_X5_15 dX5_countSigns_17 rfl ?_
          refine J_land (pc1 := 21) dX5_countSigns_20 rfl ?_
          rw [lN_and]
          refine J_l2i (pc1 := 22) dX5_countSigns_21 rfl ?_
          rw [lN_i32]
          refine J_istore (pc1 := 24) (L1 := [some (.long (lN x)), none, some (.int (iI (n : Int))), some (.long (lN z)), none, some (.int (iI (((z % 256) : Nat) : Int)))]) dX5_countSigns_22 rfl (by decide) rfl rfl ?_
          refine J_iload (pc1 := 26) rfl dX5_countSigns_24 rfl ?_
          refine J_bipush (pc1 := 28) (by decide) dX5_countSigns_26 rfl ?_
          refine J_icmp_lt (pc1 := 31) (tgt := 38) (by omega) (by omega) (by decide) (by decide) dX5_countSigns_28 rfl rfl (fun hc4 => ?_) (fun hc4 => ?_)
          · refine J_iconst (pc1 := 39) dX5_countSigns_38 rfl ?_
            exact J_iret rfl rfl dX5_countSigns_39 (Nat.le_refl _) (Nat.le_refl _) (kI_mk (by rw [← h2, if_neg (fun q => (show ¬ lcZ (lN z) 0 = 0 by assumption) ((lcZ_0 hx64).mpr q)), if_pos (by omega)]))
          · refine J_iload (pc1 := 33) rfl dX5_countSigns_31 rfl ?_
            refine J_bipush (pc1 := 35) (by decide) dX5_countSigns_33 rfl ?_
            refine J_icmp_le (pc1 := 38) (tgt := 40) (by omega) (by omega) (by decide) (by decide) dX5_countSigns_35 rfl rfl (fun hc5 => ?_) (fun hc5 => ?_)
            · refine J_lload_n (pc1 := 41) rfl (i := 3) rfl dX5_countSigns_40 rfl ?_
              refine J_bipush (pc1 := 43) (by decide) dX5_countSigns_41 rfl ?_
              refine J_lushr (pc1 := 44) (v := lN (z / 256)) (lN_ushr hx64 (s := 8) (by decide) (by decide)) dX5_countSigns_43 rfl ?_
              refine J_lstore_n (pc1 := 45) (L1 := [some (.long (lN x)), none, some (.int (iI (n : Int))), some (.long (lN (z / 256))), none, some (.int (iI (((z % 256) : Nat) : Int)))]) rfl (i := 3) dX5_countSigns_44 rfl (by decide) rfl rfl ?_
              refine J_iinc (pc1 := 48) (L1 := [some (.long (lN x)), none, some (.int (iI ((n : Int) + 1))), some (.long (lN (z / 256))), none, some (.int (iI (((z % 256) : Nat) : Int)))]) dX5_countSigns_45 rfl rfl (by decide) rfl rfl ?_
              refine J_goto (tgt := 4) dX5_countSigns_48 rfl ?_
              rw [show ((n : Int) + 1) = ((n + 1 : Nat) : Int) by omega]
              rw [if_neg (fun q => (by assumption : ¬ lcZ (lN z) 0 = 0) ((lcZ_0 hx64).mpr q)), if_neg (by omega)] at h2
              refine J_sub (L1 := [some (.long (lN x)), none, some (.int (iI ((n + 1 : Nat) : Int))), some (.long (lN (z / 256))), none, none]) ⟨rfl, rfl, rfl, trivial⟩ ?_
              exact ih (n + 1) (z / 256) (by omega) (by omega) h2
            · refine J_iconst (pc1 := 39) dX5_countSigns_38 rfl ?_
              exact J_iret rfl rfl dX5_countSigns_39 (Nat.le_refl _) (Nat.le_refl _) (kI_mk (by rw [← h2, if_neg (fun q => (show ¬ lcZ (lN z) 0 = 0 by assumption) ((lcZ_0 hx64).mpr q)), if_pos (by omega)]))
  refine J_iconst (pc1 := 1) dX5_countSigns_0 rfl ?_
  refine J_istore_n (pc1 := 2) (L1 := [some (.long (lN x)), none, some (.int (iI 0)), none, none, none]) rfl (i := 2) dX5_countSigns_1 rfl (by decide) rfl rfl ?_
  refine J_lload_n (pc1 := 3) rfl (i := 0) rfl dX5_countSigns_2 rfl ?_
  refine J_lstore_n (pc1 := 4) (L1 := [some (.long (lN x)), none, some (.int (iI 0)), some (.long (lN x)), none, none]) rfl (i := 3) dX5_countSigns_3 rfl (by decide) rfl rfl ?_
  exact LP 8 0 x (by omega) hx rfl
set_option maxHeartbeats 1000000 in
set_option maxRecDepth 20000 in
theorem c_X5_append {S : pS} {p pa L : Nat} {tx : Int → Int} (hP : PadOK S p pa tx L) {x n : Nat} (hx64 : x < 2 ^ 64) (hn : L + n ≤ 60) (hn8 : n ≤ 8) : Ct yX5_append cX5_append 5 none 0 0 0 [.ref p, .long (lN x), .int (iI (n : Int))] S (kN (pu (pu S p (oO 5 [.ref pa, .int (iI ((L + n : Nat) : Int))])) pa (aI 60 (apF tx L n x n)))) := by
  obtain ⟨p1, p2, p3, p4⟩ := id hP
  refine Ct.ofJ (by decide +kernel) (Nat.le_of_ble_eq_true rfl) ?_
  refine J_L (L1 := [some (.ref p), some (.long (lN x)), none, some (.int (iI (n : Int))), none]) rfl ?_
  have LP : ∀ (r j : Nat), j + r = n → Jd yX5_append cX5_append 5 none 0 0 0 (kN (pu (pu S p (oO 5 [.ref pa, .int (iI ((L + n : Nat) : Int))])) pa (aI 60 (apF tx L n x n)))) 0 0 (pu (pu S p (oO 5 [.ref pa, .int (iI ((L + j : Nat) : Int))])) pa (aI 60 (apF tx L n x j))) 5 [some (.ref p), some (.long (lN x)), none, some (.int (iI (n : Int))), some (.int (iI ((n : Int) - 1 - j)))] [] := by
    intro r
    induction r with
    | zero =>
      intro j h1
      have e : j = n := by omega
      subst e
      refine J_iload (pc1 := 7) rfl dX5_append_5 rfl ?_
      refine J_if_lt (pc1 := 10) (tgt := 66) (by omega) (by omega) dX5_append_7 rfl rfl (fun hc1 => ?_) (fun hc1 => ?_)
      · exact J_vret rfl dX5_append_66 (Nat.le_refl _) (Nat.le_refl _) (kN_mk rfl)
      · exact absurd (by omega) hc1
    | succ r ih =>
      intro j h1
      refine J_iload (pc1 := 7) rfl dX5_append_5 rfl ?_
      refine J_if_lt (pc1 := 10) (tgt := 66) (by omega) (by omega) dX5_append_7 rfl rfl (fun hc2 => ?_) (fun hc2 => ?_)
      · exact absurd hc2 (by omega)
      · refine J_aload_n (pc1 := 11) rfl (i := 0) rfl dX5_append_10 rfl ?_
        refine J_get (pc1 := 14) (j := 1) inUX5 (ci := 5) rfl (by decide) lf_X5_17 dX5_append_11 rfl ((pu_ne _ _ (ne_OI hP.1 hP.2.1)).trans (pu_self _ _ _)) rfl ?_
        refine J_if_lt (pc1 := 17) (tgt := 60) (by omega) (by omega) dX5_append_14 rfl rfl (fun hc3 => ?_) (fun hc3 => ?_)
        · exact absurd hc3 (by omega)
        · refine J_aload_n (pc1 := 18) rfl (i := 0) rfl dX5_append_17 rfl ?_
          refine J_get (pc1 := 21) (j := 1) inUX5 (ci := 5) rfl (by decide) lf_X5_17 dX5_append_18 rfl ((pu_ne _ _ (ne_OI hP.1 hP.2.1)).trans (pu_self _ _ _)) rfl ?_
          refine J_aload_n (pc1 := 22) rfl (i := 0) rfl dX5_append_21 rfl ?_
          refine J_get (pc1 := 25) (j := 0) inUX5 (ci := 5) rfl (by decide) lf_X5_9 dX5_append_22 rfl ((pu_ne _ _ (ne_OI hP.1 hP.2.1)).trans (pu_self _ _ _)) rfl ?_
          refine J_alenI (pc1 := 26) dX5_append_25 rfl (pu_self _ _ _) ?_
          refine J_icmp_ge (pc1 := 29) (tgt := 60) (by omega) (by omega) (by decide) (by decide) dX5_append_26 rfl rfl (fun hc4 => ?_) (fun hc4 => ?_)
          · exact absurd hc4 (by omega)
          · refine J_aload_n (pc1 := 30) rfl (i := 0) rfl dX5_append_29 rfl ?_
            refine J_get (pc1 := 33) (j := 0) inUX5 (ci := 5) rfl (by decide) lf_X5_9 dX5_append_30 rfl ((pu_ne _ _ (ne_OI hP.1 hP.2.1)).trans (pu_self _ _ _)) rfl ?_
            refine J_aload_n (pc1 := 34) rfl (i := 0) rfl dX5_append_33 rfl ?_
            refine J_get (pc1 := 37) (j := 1) inUX5 (ci := 5) rfl (by decide) lf_X5_17 dX5_append_34 rfl ((pu_ne _ _ (ne_OI hP.1 hP.2.1)).trans (pu_self _ _ _)) rfl ?_
            refine J_lload_n (pc1 := 38) rfl (i := 1) rfl dX5_append_37 rfl ?_
            refine J_bipush (pc1 := 40) (by decide) dX5_append_38 rfl ?_
            refine J_iload (pc1 := 42) rfl dX5_append_40 rfl ?_
            refine J_imul (pc1 := 43) dX5_append_42 rfl ?_
            refine J_lushr (pc1 := 44) (v := lN (x / 2 ^ (8 * ((n : Int) - 1 - j)).toNat)) (lN_ushr hx64 (s := 8 * ((n : Int) - 1 - j)) (by omega) (by omega)) dX5_append_43 rfl ?_
            refine J_ldc2 (pc1 := 47) lq_X5_15 dX5_append_44 rfl ?_
            refine J_land (pc1 := 48) dX5_append_47 rfl ?_
            rw [lN_and]
            refine J_l2i (pc1 := 49) dX5_append_48 rfl ?_
            rw [lN_i32]
            rw [show (8 * ((n : Int) - 1 - (j : Int))).toNat = 8 * (n - 1 - j) by omega]
            refine J_iast (pc1 := 50) dX5_append_49 rfl (pu_self _ _ _) (by omega) (by omega) (by omega) ?_
            rw [pu_pu]
            refine J_aload_n (pc1 := 51) rfl (i := 0) rfl dX5_append_50 rfl ?_
            refine J_dup (pc1 := 52) rfl dX5_append_51 rfl ?_
            refine J_get (pc1 := 55) (j := 1) inUX5 (ci := 5) rfl (by decide) lf_X5_17 dX5_append_52 rfl ((pu_ne _ _ (ne_OI hP.1 hP.2.1)).trans (pu_self _ _ _)) rfl ?_
            refine J_iconst (pc1 := 56) dX5_append_55 rfl ?_
            refine J_iadd (pc1 := 57) dX5_append_56 rfl ?_
            refine J_put (pc1 := 60) (ty := .int) (j := 1) (fs1 := [.ref pa, .int (iI (((L + j : Nat) : Int) + 1))]) inUX5 (ci := 5) rfl (by decide) tyX5 tyX5_ok nmX5 rfl (by decide +kernel) lf_X5_17 dX5_append_57 rfl ((pu_ne _ _ (ne_OI hP.1 hP.2.1)).trans (pu_self _ _ _)) rfl (by rfl) (Nat.le_of_ble_eq_true rfl) rfl ?_
            refine J_iinc (pc1 := 63) (L1 := [some (.ref p), some (.long (lN x)), none, some (.int (iI (n : Int))), some (.int (iI (((n : Int) - 1 - j) + (-1))))]) dX5_append_60 rfl rfl (by decide) rfl rfl ?_
            refine J_goto (tgt := 5) dX5_append_63 rfl ?_
            skip
            refine J_S (S1 := (pu (pu S p (oO 5 [.ref pa, .int (iI ((L + (j + 1) : Nat) : Int))])) pa (aI 60 (apF tx L n x (j + 1))))) (by rw [apF_s tx (by omega), pu_comm _ _ _ (ne_IO hP.2.1 hP.1), pu_pu, show ((L + j : Nat) : Int) + 1 = ((L + (j + 1) : Nat) : Int) by omega]) ?_
            refine J_L (L1 := [some (.ref p), some (.long (lN x)), none, some (.int (iI (n : Int))), some (.int (iI ((n : Int) - 1 - ((j + 1 : Nat) : Int))))]) (by rw [show (n : Int) - 1 - (j : Int) + (-1) = (n : Int) - 1 - ((j + 1 : Nat) : Int) by omega]) ?_
            exact ih (j + 1) (by omega)
  refine J_iload_n (pc1 := 1) rfl (i := 3) rfl dX5_append_0 rfl ?_
  refine J_iconst (pc1 := 2) dX5_append_1 rfl ?_
  refine J_isub (pc1 := 3) dX5_append_2 rfl ?_
  refine J_istore (pc1 := 5) (L1 := [some (.ref p), some (.long (lN x)), none, some (.int (iI (n : Int))), some (.int (iI ((n : Int) - 1)))]) dX5_append_3 rfl (by decide) rfl rfl ?_
  refine J_S (S1 := (pu (pu S p (oO 5 [.ref pa, .int (iI ((L + 0 : Nat) : Int))])) pa (aI 60 (apF tx L n x 0)))) (by rw [apF_0, Nat.add_zero, pu_id hP.1, pu_id hP.2.1]) ?_
  refine J_L (L1 := [some (.ref p), some (.long (lN x)), none, some (.int (iI (n : Int))), some (.int (iI ((n : Int) - 1 - ((0 : Nat) : Int))))]) (by rw [show ((0 : Nat) : Int) = 0 from rfl, Int.sub_zero]) ?_
  exact LP n 0 (by omega)
set_option maxHeartbeats 1000000 in
set_option maxRecDepth 20000 in
theorem c_X5_firstFault {S : pS} {p pa L : Nat} {tx : Int → Int} (hP : PadOK S p pa tx L) : Ct yX5_firstFault cX5_firstFault 5 (Option.some FieldType.int) 1 0 0 [.ref p] S (kI (dfa tx L 0 0 0) S) := by
  obtain ⟨p1, p2, p3, p4⟩ := id hP
  refine Ct.ofJ (by decide +kernel) (Nat.le_of_ble_eq_true rfl) ?_
  refine J_L (L1 := [some (.ref p), none, none, none, none]) rfl ?_
  have LP : ∀ (r i : Nat) (ia d : Int), i + r = L → (ia = 0 ∨ ia = 1) → (0 ≤ d ∧ d ≤ 2) → dfa tx r i ia d = dfa tx L 0 0 0 → Jd yX5_firstFault cX5_firstFault 5 (Option.some FieldType.int) 1 0 0 (kI (dfa tx L 0 0 0) S) 0 0 S 6 [some (.ref p), some (.int (iI ia)), some (.int (iI d)), some (.int (iI (i : Int))), none] [] := by
    intro r
    induction r with
    | zero =>
      intro i ia d h1 h2 h3 h4
      have h4 : (if ia = 1 ∧ ¬ d = 0 then (-1006 : Int) else (i : Int)) = dfa tx L 0 0 0 := h4
      refine J_iload_n (pc1 := 7) rfl (i := 3) rfl dX5_firstFault_6 rfl ?_
      refine J_aload_n (pc1 := 8) rfl (i := 0) rfl dX5_firstFault_7 rfl ?_
      refine J_get (pc1 := 11) (j := 1) inUX5 (ci := 5) rfl (by decide) lf_X5_17 dX5_firstFault_8 rfl hP.1 rfl ?_
      refine J_icmp_ge (pc1 := 14) (tgt := 93) (by omega) (by omega) (by omega) (by omega) dX5_firstFault_11 rfl rfl (fun hc1 => ?_) (fun hc1 => ?_)
      · refine J_iload_n (pc1 := 94) rfl (i := 1) rfl dX5_firstFault_93 rfl ?_
        refine J_if_eq (pc1 := 97) (tgt := 107) (by omega) (by omega) dX5_firstFault_94 rfl rfl (fun hc2 => ?_) (fun hc2 => ?_)
        · refine J_aload_n (pc1 := 108) rfl (i := 0) rfl dX5_firstFault_107 rfl ?_
          refine J_get (pc1 := 111) (j := 1) inUX5 (ci := 5) rfl (by decide) lf_X5_17 dX5_firstFault_108 rfl hP.1 rfl ?_
          exact J_iret rfl rfl dX5_firstFault_111 (Nat.le_refl _) (Nat.le_refl _) (kI_mk (by rw [← h4]; first | (rw [if_pos (by omega)]; done) | (rw [if_neg (by omega)]; omega)))
        · refine J_iload_n (pc1 := 98) rfl (i := 2) rfl dX5_firstFault_97 rfl ?_
          refine J_if_eq (pc1 := 101) (tgt := 107) (by omega) (by omega) dX5_firstFault_98 rfl rfl (fun hc3 => ?_) (fun hc3 => ?_)
          · refine J_aload_n (pc1 := 108) rfl (i := 0) rfl dX5_firstFault_107 rfl ?_
            refine J_get (pc1 := 111) (j := 1) inUX5 (ci := 5) rfl (by decide) lf_X5_17 dX5_firstFault_108 rfl hP.1 rfl ?_
            exact J_iret rfl rfl dX5_firstFault_111 (Nat.le_refl _) (Nat.le_refl _) (kI_mk (by rw [← h4]; first | (rw [if_pos (by omega)]; done) | (rw [if_neg (by omega)]; omega)))
          · refine J_sipush (pc1 := 104) (by decide) dX5_firstFault_101 rfl ?_
            refine J_goto (tgt := 111) dX5_firstFault_104 rfl ?_
            exact J_iret rfl rfl dX5_firstFault_111 (Nat.le_refl _) (Nat.le_refl _) (kI_mk (by rw [← h4]; first | (rw [if_pos (by omega)]; done) | (rw [if_neg (by omega)]; omega)))
      · exact absurd (by omega) hc1
    | succ r ih =>
      intro i ia d h1 h2 h3 h4
      have h4a : ∀ (q : cdF (tx i) d), dfa tx r (i + 1) ia (if tx i = 49 ∧ d = 0 then 1 else 2) = dfa tx L 0 0 0 := fun q => by rw [← h4]; exact (if_pos q).symm
      have h4b : ∀ (q : ¬ cdF (tx i) d), (if ¬ d = 0 ∧ tx i = (if ia = 1 then 44 else 58) then dfa tx r (i + 1) (1 - ia) 0 else (i : Int)) = dfa tx L 0 0 0 := fun q => by rw [← h4]; exact (if_neg q).symm
      have h44 : (if ia = 1 then (44 : Int) else 58) = 44 ∧ ia = 1 ∨ (if ia = 1 then (44 : Int) else 58) = 58 ∧ ia = 0 := by split <;> omega
      have h4t := p4 (i : Int)
      refine J_iload_n (pc1 := 7) rfl (i := 3) rfl dX5_firstFault_6 rfl ?_
      refine J_aload_n (pc1 := 8) rfl (i := 0) rfl dX5_firstFault_7 rfl ?_
      refine J_get (pc1 := 11) (j := 1) inUX5 (ci := 5) rfl (by decide) lf_X5_17 dX5_firstFault_8 rfl hP.1 rfl ?_
      refine J_icmp_ge (pc1 := 14) (tgt := 93) (by omega) (by omega) (by omega) (by omega) dX5_firstFault_11 rfl rfl (fun hc4 => ?_) (fun hc4 => ?_)
      · exact absurd hc4 (by omega)
      · refine J_aload_n (pc1 := 15) rfl (i := 0) rfl dX5_firstFault_14 rfl ?_
        refine J_iload_n (pc1 := 16) rfl (i := 3) rfl dX5_firstFault_15 rfl ?_
        refine J_callVI (pc1 := 19) (As := [.int (iI (i : Int))]) gv_X5_21 yv_X5_signAt rfl (c_X5_signAt hP (i := (i : Int)) (by omega)) dX5_firstFault_16 rfl hP.1 rfl rfl (by omega) (by decide) (Nat.zero_le _) (Nat.zero_le _) (Nat.le_of_ble_eq_true rfl) ?_
        refine J_istore (pc1 := 21) (L1 := [some (.ref p), some (.int (iI ia)), some (.int (iI d)), some (.int (iI (i : Int))), some (.int (iI (tx (i : Int))))]) dX5_firstFault_19 rfl (by decide) rfl rfl ?_
        refine J_iload (pc1 := 23) rfl dX5_firstFault_21 rfl ?_
        refine J_iload_n (pc1 := 24) rfl (i := 2) rfl dX5_firstFault_23 rfl ?_
        refine J_callSI (pc1 := 27) (As := [.int (iI (tx (i : Int))), .int (iI d)]) gs_X5_25 yv_X5_canStandAsDigit (c_X5_canStandAsDigit (p4 _) (by omega)) dX5_firstFault_24 rfl rfl rfl (by omega) (by decide) (Nat.zero_le _) (Nat.zero_le _) (Nat.le_of_ble_eq_true rfl) ?_
        refine J_if_eq (pc1 := 30) (tgt := 50) (bC_lo _) (bC_hi _) dX5_firstFault_27 rfl rfl (fun hc5 => ?_) (fun hc5 => ?_)
        · refine J_iload_n (pc1 := 51) rfl (i := 2) rfl dX5_firstFault_50 rfl ?_
          refine J_if_eq (pc1 := 54) (tgt := 85) (by omega) (by omega) dX5_firstFault_51 rfl rfl (fun hc6 => ?_) (fun hc6 => ?_)
          · refine J_iload_n (pc1 := 86) rfl (i := 3) rfl dX5_firstFault_85 rfl ?_
            exact J_iret rfl rfl dX5_firstFault_86 (Nat.le_refl _) (Nat.le_refl _) (kI_mk (by rw [← h4b (bC_0 (by assumption)), if_neg (by omega)]))
          · refine J_iload (pc1 := 56) rfl dX5_firstFault_54 rfl ?_
            refine J_iload_n (pc1 := 57) rfl (i := 1) rfl dX5_firstFault_56 rfl ?_
            refine J_if_eq (pc1 := 60) (tgt := 65) (by omega) (by omega) dX5_firstFault_57 rfl rfl (fun hc7 => ?_) (fun hc7 => ?_)
            · refine J_bipush (pc1 := 67) (by decide) dX5_firstFault_65 rfl ?_
              refine J_icmp_ne (pc1 := 70) (tgt := 85) (by omega) (by omega) (by decide) (by decide) dX5_firstFault_67 rfl rfl (fun hc8 => ?_) (fun hc8 => ?_)
              · refine J_iload_n (pc1 := 86) rfl (i := 3) rfl dX5_firstFault_85 rfl ?_
                exact J_iret rfl rfl dX5_firstFault_86 (Nat.le_refl _) (Nat.le_refl _) (kI_mk (by rw [← h4b (bC_0 (by assumption)), if_neg (by omega)]))
              · refine J_iload_n (pc1 := 71) rfl (i := 1) rfl dX5_firstFault_70 rfl ?_
                refine J_if_ne (pc1 := 74) (tgt := 78) (by omega) (by omega) dX5_firstFault_71 rfl rfl (fun hc9 => ?_) (fun hc9 => ?_)
                · refine J_iconst (pc1 := 79) dX5_firstFault_78 rfl ?_
                  refine J_istore_n (pc1 := 80) (L1 := [some (.ref p), some (.int (iI 0)), some (.int (iI d)), some (.int (iI (i : Int))), some (.int (iI (tx (i : Int))))]) rfl (i := 1) dX5_firstFault_79 rfl (by decide) rfl rfl ?_
                  refine J_iconst (pc1 := 81) dX5_firstFault_80 rfl ?_
                  refine J_istore_n (pc1 := 82) (L1 := [some (.ref p), some (.int (iI 0)), some (.int (iI 0)), some (.int (iI (i : Int))), some (.int (iI (tx (i : Int))))]) rfl (i := 2) dX5_firstFault_81 rfl (by decide) rfl rfl ?_
                  refine J_goto (tgt := 87) dX5_firstFault_82 rfl ?_
                  refine J_iinc (pc1 := 90) (L1 := [some (.ref p), some (.int (iI 0)), some (.int (iI 0)), some (.int (iI ((i : Int) + 1))), some (.int (iI (tx (i : Int))))]) dX5_firstFault_87 rfl rfl (by decide) rfl rfl ?_
                  refine J_goto (tgt := 6) dX5_firstFault_90 rfl ?_
                  refine J_sub (L1 := [some (.ref p), some (.int (iI 0)), some (.int (iI 0)), some (.int (iI ((i : Int) + 1))), none]) ⟨rfl, rfl, rfl, rfl, trivial⟩ ?_
                  rw [(show ((i : Nat) : Int) + 1 = ((i + 1 : Nat) : Int) by omega)]
                  have h5 := h4b (bC_0 (by assumption))
                  rw [if_pos (by omega), (show ((i : Nat) : Int) + 1 = ((i + 1 : Nat) : Int) by omega)] at h5
                  exact ih (i + 1) 0 0 (by omega) (by omega) (by omega) (by rw [← h5]; congr 1; omega)
                · refine J_iconst (pc1 := 75) dX5_firstFault_74 rfl ?_
                  refine J_goto (tgt := 79) dX5_firstFault_75 rfl ?_
                  refine J_istore_n (pc1 := 80) (L1 := [some (.ref p), some (.int (iI 1)), some (.int (iI d)), some (.int (iI (i : Int))), some (.int (iI (tx (i : Int))))]) rfl (i := 1) dX5_firstFault_79 rfl (by decide) rfl rfl ?_
                  refine J_iconst (pc1 := 81) dX5_firstFault_80 rfl ?_
                  refine J_istore_n (pc1 := 82) (L1 := [some (.ref p), some (.int (iI 1)), some (.int (iI 0)), some (.int (iI (i : Int))), some (.int (iI (tx (i : Int))))]) rfl (i := 2) dX5_firstFault_81 rfl (by decide) rfl rfl ?_
                  refine J_goto (tgt := 87) dX5_firstFault_82 rfl ?_
                  refine J_iinc (pc1 := 90) (L1 := [some (.ref p), some (.int (iI 1)), some (.int (iI 0)), some (.int (iI ((i : Int) + 1))), some (.int (iI (tx (i : Int))))]) dX5_firstFault_87 rfl rfl (by decide) rfl rfl ?_
                  refine J_goto (tgt := 6) dX5_firstFault_90 rfl ?_
                  refine J_sub (L1 := [some (.ref p), some (.int (iI 1)), some (.int (iI 0)), some (.int (iI ((i : Int) + 1))), none]) ⟨rfl, rfl, rfl, rfl, trivial⟩ ?_
                  rw [(show ((i : Nat) : Int) + 1 = ((i + 1 : Nat) : Int) by omega)]
                  have h5 := h4b (bC_0 (by assumption))
                  rw [if_pos (by omega), (show ((i : Nat) : Int) + 1 = ((i + 1 : Nat) : Int) by omega)] at h5
                  exact ih (i + 1) 1 0 (by omega) (by omega) (by omega) (by rw [← h5]; congr 1; omega)
            · refine J_bipush (pc1 := 62) (by decide) dX5_firstFault_60 rfl ?_
              refine J_goto (tgt := 67) dX5_firstFault_62 rfl ?_
              refine J_icmp_ne (pc1 := 70) (tgt := 85) (by omega) (by omega) (by decide) (by decide) dX5_firstFault_67 rfl rfl (fun hc10 => ?_) (fun hc10 => ?_)
              · refine J_iload_n (pc1 := 86) rfl (i := 3) rfl dX5_firstFault_85 rfl ?_
                exact J_iret rfl rfl dX5_firstFault_86 (Nat.le_refl _) (Nat.le_refl _) (kI_mk (by rw [← h4b (bC_0 (by assumption)), if_neg (by omega)]))
              · refine J_iload_n (pc1 := 71) rfl (i := 1) rfl dX5_firstFault_70 rfl ?_
                refine J_if_ne (pc1 := 74) (tgt := 78) (by omega) (by omega) dX5_firstFault_71 rfl rfl (fun hc11 => ?_) (fun hc11 => ?_)
                · refine J_iconst (pc1 := 79) dX5_firstFault_78 rfl ?_
                  refine J_istore_n (pc1 := 80) (L1 := [some (.ref p), some (.int (iI 0)), some (.int (iI d)), some (.int (iI (i : Int))), some (.int (iI (tx (i : Int))))]) rfl (i := 1) dX5_firstFault_79 rfl (by decide) rfl rfl ?_
                  refine J_iconst (pc1 := 81) dX5_firstFault_80 rfl ?_
                  refine J_istore_n (pc1 := 82) (L1 := [some (.ref p), some (.int (iI 0)), some (.int (iI 0)), some (.int (iI (i : Int))), some (.int (iI (tx (i : Int))))]) rfl (i := 2) dX5_firstFault_81 rfl (by decide) rfl rfl ?_
                  refine J_goto (tgt := 87) dX5_firstFault_82 rfl ?_
                  refine J_iinc (pc1 := 90) (L1 := [some (.ref p), some (.int (iI 0)), some (.int (iI 0)), some (.int (iI ((i : Int) + 1))), some (.int (iI (tx (i : Int))))]) dX5_firstFault_87 rfl rfl (by decide) rfl rfl ?_
                  refine J_goto (tgt := 6) dX5_firstFault_90 rfl ?_
                  refine J_sub (L1 := [some (.ref p), some (.int (iI 0)), some (.int (iI 0)), some (.int (iI ((i : Int) + 1))), none]) ⟨rfl, rfl, rfl, rfl, trivial⟩ ?_
                  rw [(show ((i : Nat) : Int) + 1 = ((i + 1 : Nat) : Int) by omega)]
                  have h5 := h4b (bC_0 (by assumption))
                  rw [if_pos (by omega), (show ((i : Nat) : Int) + 1 = ((i + 1 : Nat) : Int) by omega)] at h5
                  exact ih (i + 1) 0 0 (by omega) (by omega) (by omega) (by rw [← h5]; congr 1; omega)
                · refine J_iconst (pc1 := 75) dX5_firstFault_74 rfl ?_
                  refine J_goto (tgt := 79) dX5_firstFault_75 rfl ?_
                  refine J_istore_n (pc1 := 80) (L1 := [some (.ref p), some (.int (iI 1)), some (.int (iI d)), some (.int (iI (i : Int))), some (.int (iI (tx (i : Int))))]) rfl (i := 1) dX5_firstFault_79 rfl (by decide) rfl rfl ?_
                  refine J_iconst (pc1 := 81) dX5_firstFault_80 rfl ?_
                  refine J_istore_n (pc1 := 82) (L1 := [some (.ref p), some (.int (iI 1)), some (.int (iI 0)), some (.int (iI (i : Int))), some (.int (iI (tx (i : Int))))]) rfl (i := 2) dX5_firstFault_81 rfl (by decide) rfl rfl ?_
                  refine J_goto (tgt := 87) dX5_firstFault_82 rfl ?_
                  refine J_iinc (pc1 := 90) (L1 := [some (.ref p), some (.int (iI 1)), some (.int (iI 0)), some (.int (iI ((i : Int) + 1))), some (.int (iI (tx (i : Int))))]) dX5_firstFault_87 rfl rfl (by decide) rfl rfl ?_
                  refine J_goto (tgt := 6) dX5_firstFault_90 rfl ?_
                  refine J_sub (L1 := [some (.ref p), some (.int (iI 1)), some (.int (iI 0)), some (.int (iI ((i : Int) + 1))), none]) ⟨rfl, rfl, rfl, rfl, trivial⟩ ?_
                  rw [(show ((i : Nat) : Int) + 1 = ((i + 1 : Nat) : Int) by omega)]
                  have h5 := h4b (bC_0 (by assumption))
                  rw [if_pos (by omega), (show ((i : Nat) : Int) + 1 = ((i + 1 : Nat) : Int) by omega)] at h5
                  exact ih (i + 1) 1 0 (by omega) (by omega) (by omega) (by rw [← h5]; congr 1; omega)
        · refine J_iload (pc1 := 32) rfl dX5_firstFault_30 rfl ?_
          refine J_bipush (pc1 := 34) (by decide) dX5_firstFault_32 rfl ?_
          refine J_icmp_ne (pc1 := 37) (tgt := 45) (by omega) (by omega) (by decide) (by decide) dX5_firstFault_34 rfl rfl (fun hc12 => ?_) (fun hc12 => ?_)
          · refine J_iconst (pc1 := 46) dX5_firstFault_45 rfl ?_
            refine J_istore_n (pc1 := 47) (L1 := [some (.ref p), some (.int (iI ia)), some (.int (iI 2)), some (.int (iI (i : Int))), some (.int (iI (tx (i : Int))))]) rfl (i := 2) dX5_firstFault_46 rfl (by decide) rfl rfl ?_
            refine J_goto (tgt := 87) dX5_firstFault_47 rfl ?_
            refine J_iinc (pc1 := 90) (L1 := [some (.ref p), some (.int (iI ia)), some (.int (iI 2)), some (.int (iI ((i : Int) + 1))), some (.int (iI (tx (i : Int))))]) dX5_firstFault_87 rfl rfl (by decide) rfl rfl ?_
            refine J_goto (tgt := 6) dX5_firstFault_90 rfl ?_
            refine J_sub (L1 := [some (.ref p), some (.int (iI ia)), some (.int (iI 2)), some (.int (iI ((i : Int) + 1))), none]) ⟨rfl, rfl, rfl, rfl, trivial⟩ ?_
            rw [(show ((i : Nat) : Int) + 1 = ((i + 1 : Nat) : Int) by omega)]
            have h5 := h4a (bC_1 (by assumption))
            rw [if_neg (by omega), (show ((i : Nat) : Int) + 1 = ((i + 1 : Nat) : Int) by omega)] at h5
            exact ih (i + 1) ia 2 (by omega) (by omega) (by omega) h5
          · refine J_iload_n (pc1 := 38) rfl (i := 2) rfl dX5_firstFault_37 rfl ?_
            refine J_if_ne (pc1 := 41) (tgt := 45) (by omega) (by omega) dX5_firstFault_38 rfl rfl (fun hc13 => ?_) (fun hc13 => ?_)
            · refine J_iconst (pc1 := 46) dX5_firstFault_45 rfl ?_
              refine J_istore_n (pc1 := 47) (L1 := [some (.ref p), some (.int (iI ia)), some (.int (iI 2)), some (.int (iI (i : Int))), some (.int (iI (tx (i : Int))))]) rfl (i := 2) dX5_firstFault_46 rfl (by decide) rfl rfl ?_
              refine J_goto (tgt := 87) dX5_firstFault_47 rfl ?_
              refine J_iinc (pc1 := 90) (L1 := [some (.ref p), some (.int (iI ia)), some (.int (iI 2)), some (.int (iI ((i : Int) + 1))), some (.int (iI (tx (i : Int))))]) dX5_firstFault_87 rfl rfl (by decide) rfl rfl ?_
              refine J_goto (tgt := 6) dX5_firstFault_90 rfl ?_
              refine J_sub (L1 := [some (.ref p), some (.int (iI ia)), some (.int (iI 2)), some (.int (iI ((i : Int) + 1))), none]) ⟨rfl, rfl, rfl, rfl, trivial⟩ ?_
              rw [(show ((i : Nat) : Int) + 1 = ((i + 1 : Nat) : Int) by omega)]
              have h5 := h4a (bC_1 (by assumption))
              rw [if_neg (by omega), (show ((i : Nat) : Int) + 1 = ((i + 1 : Nat) : Int) by omega)] at h5
              exact ih (i + 1) ia 2 (by omega) (by omega) (by omega) h5
            · refine J_iconst (pc1 := 42) dX5_firstFault_41 rfl ?_
              refine J_goto (tgt := 46) dX5_firstFault_42 rfl ?_
              refine J_istore_n (pc1 := 47) (L1 := [some (.ref p), some (.int (iI ia)), some (.int (iI 1)), some (.int (iI (i : Int))), some (.int (iI (tx (i : Int))))]) rfl (i := 2) dX5_firstFault_46 rfl (by decide) rfl rfl ?_
              refine J_goto (tgt := 87) dX5_firstFault_47 rfl ?_
              refine J_iinc (pc1 := 90) (L1 := [some (.ref p), some (.int (iI ia)), some (.int (iI 1)), some (.int (iI ((i : Int) + 1))), some (.int (iI (tx (i : Int))))]) dX5_firstFault_87 rfl rfl (by decide) rfl rfl ?_
              refine J_goto (tgt := 6) dX5_firstFault_90 rfl ?_
              refine J_sub (L1 := [some (.ref p), some (.int (iI ia)), some (.int (iI 1)), some (.int (iI ((i : Int) + 1))), none]) ⟨rfl, rfl, rfl, rfl, trivial⟩ ?_
              rw [(show ((i : Nat) : Int) + 1 = ((i + 1 : Nat) : Int) by omega)]
              have h5 := h4a (bC_1 (by assumption))
              rw [if_pos (by omega), (show ((i : Nat) : Int) + 1 = ((i + 1 : Nat) : Int) by omega)] at h5
              exact ih (i + 1) ia 1 (by omega) (by omega) (by omega) h5
  refine J_iconst (pc1 := 1) dX5_firstFault_0 rfl ?_
  refine J_istore_n (pc1 := 2) (L1 := [some (.ref p), some (.int (iI 0)), none, none, none]) rfl (i := 1) dX5_firstFault_1 rfl (by decide) rfl rfl ?_
  refine J_iconst (pc1 := 3) dX5_firstFault_2 rfl ?_
  refine J_istore_n (pc1 := 4) (L1 := [some (.ref p), some (.int (iI 0)), some (.int (iI 0)), none, none]) rfl (i := 2) dX5_firstFault_3 rfl (by decide) rfl rfl ?_
  refine J_iconst (pc1 := 5) dX5_firstFault_4 rfl ?_
  refine J_istore_n (pc1 := 6) (L1 := [some (.ref p), some (.int (iI 0)), some (.int (iI 0)), some (.int (iI 0)), none]) rfl (i := 3) dX5_firstFault_5 rfl (by decide) rfl rfl ?_
  exact LP L 0 0 0 (by omega) (by omega) (by omega) rfl
