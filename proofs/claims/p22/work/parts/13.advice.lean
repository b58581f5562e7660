/-! 13.advice: Advice; folds over bids and answers -/
def capT (x : Int) : Int := if x < 8 then x else 9
/-- the time of p behind a round that t takes for pr -/
noncomputable def tmN (f : Int → Int) (p t pr : Int) : Int := capT (tT (f 0) (f 3) (f 2) (twF f p + (if t = p then -1 else 1)) (moF f p + (if t = p then -pr else gaE (f 2) pr)) (moF f (1 - p) + (if t = p then gaE (f 2) pr else -pr)) (bZ (¬ p = f 5)))
noncomputable def tbh (f : Int → Int) (p b a : Int) : Int := tmN f p (tkF f b a) (prF f b a)
def mxU (h : Int → Int) (i : Int) : Nat → Int
  | 0 => i
  | n + 1 => mx (mxU h i n) (h n)
def mnU (h : Int → Int) (i : Int) : Nat → Int
  | 0 => i
  | n + 1 => mn (mnU h i n) (h n)
def agU (h : Int → Int) (i : Int) : Nat → Int
  | 0 => 0
  | n + 1 => if h n < mnU h i n then (n : Int) else agU h i n
def ahU (h : Int → Int) (i : Int) : Nat → Int
  | 0 => 0
  | n + 1 => if mxU h i n < h n then (n : Int) else ahU h i n
def cnU (h : Int → Int) : Nat → Int
  | 0 => 0
  | n + 1 => cnU h n + (if h n < 9 then 1 else 0)
theorem capT_b (E ti ps tw o f b : Int) : 0 ≤ capT (tT E ti ps tw o f b) ∧ capT (tT E ti ps tw o f b) ≤ 9 := by
  have := tT_b E ti ps tw o f b
  unfold capT
  split <;> omega
theorem tbh_b (f : Int → Int) (p b a : Int) : 0 ≤ tbh f p b a ∧ tbh f p b a ≤ 9 := capT_b _ _ _ _ _ _ _
theorem mxU_b {h : Int → Int} {i : Int} (hi : -1 ≤ i ∧ i ≤ 9) (hh : ∀ x, 0 ≤ h x ∧ h x ≤ 9) : ∀ n, -1 ≤ mxU h i n ∧ mxU h i n ≤ 9 := by
  intro n
  induction n with
  | zero => exact hi
  | succ n ih =>
    have := hh n
    show -1 ≤ mx (mxU h i n) (h n) ∧ mx (mxU h i n) (h n) ≤ 9
    unfold mx
    split <;> omega
theorem mxU_0 {h : Int → Int} {i : Int} (hi : 0 ≤ i ∧ i ≤ 9) (hh : ∀ x, 0 ≤ h x ∧ h x ≤ 9) : ∀ n, 0 ≤ mxU h i n ∧ mxU h i n ≤ 9 := by
  intro n
  induction n with
  | zero => exact hi
  | succ n ih =>
    have := hh n
    show 0 ≤ mx (mxU h i n) (h n) ∧ mx (mxU h i n) (h n) ≤ 9
    unfold mx
    split <;> omega
theorem mnU_b {h : Int → Int} {i : Int} (hi : 0 ≤ i ∧ i ≤ 9) (hh : ∀ x, 0 ≤ h x ∧ h x ≤ 9) : ∀ n, 0 ≤ mnU h i n ∧ mnU h i n ≤ 9 := by
  intro n
  induction n with
  | zero => exact hi
  | succ n ih =>
    have := hh n
    show 0 ≤ mn (mnU h i n) (h n) ∧ mn (mnU h i n) (h n) ≤ 9
    unfold mn
    split <;> omega
theorem agU_b (h : Int → Int) (i : Int) : ∀ n : Nat, 0 ≤ agU h i n ∧ agU h i n ≤ n := by
  intro n
  induction n with
  | zero => exact ⟨Int.le_refl 0, Int.le_refl 0⟩
  | succ n ih =>
    unfold agU
    split <;> omega
theorem ahU_b (h : Int → Int) (i : Int) : ∀ n : Nat, 0 ≤ ahU h i n ∧ ahU h i n ≤ n := by
  intro n
  induction n with
  | zero => exact ⟨Int.le_refl 0, Int.le_refl 0⟩
  | succ n ih =>
    unfold ahU
    split <;> omega
theorem cnU_b (h : Int → Int) : ∀ n : Nat, 0 ≤ cnU h n ∧ cnU h n ≤ n := by
  intro n
  induction n with
  | zero => exact ⟨Int.le_refl 0, Int.le_refl 0⟩
  | succ n ih =>
    unfold cnU
    split <;> omega
/-- how many bids p has -/
def nmF (f : Int → Int) (p : Int) : Nat := (moF f p + 1).toNat
noncomputable def loF (f : Int → Int) (b : Int) : Int := mxU (fun a => tbh f (f 5) b a) 0 (nmF f (1 - f 5))
noncomputable def leF (f : Int → Int) (b : Int) : Int := mnU (fun a => tbh f (1 - f 5) b a) 9 (nmF f (1 - f 5))
noncomputable def fdF (f : Int → Int) : Int := ahU (leF f) (-1) (nmF f (f 5))
noncomputable def fbF (f : Int → Int) : Int := if mnU (loF f) 9 (nmF f (f 5)) < 9 then agU (loF f) 9 (nmF f (f 5)) else fdF f
noncomputable def faF (f : Int → Int) (b : Int) : Int := if mnU (fun a => tbh f (1 - f 5) b a) 9 (nmF f (1 - f 5)) < 9 then agU (fun a => tbh f (1 - f 5) b a) 9 (nmF f (1 - f 5)) else ahU (fun a => tbh f (f 5) b a) (-1) (nmF f (1 - f 5))
noncomputable def ckF (f : Int → Int) : Int := cnU (loF f) (nmF f (f 5))
theorem loF_b (f : Int → Int) (b : Int) : 0 ≤ loF f b ∧ loF f b ≤ 9 := mxU_0 ⟨Int.le_refl 0, by decide⟩ (fun a => tbh_b f _ b a) _
theorem leF_b (f : Int → Int) (b : Int) : 0 ≤ leF f b ∧ leF f b ≤ 9 := mnU_b ⟨by decide, Int.le_refl 9⟩ (fun a => tbh_b f _ b a) _
/-- the state as p sees it -/
theorem vd_f {f : Int → Int} (ok : okF f) {p top : Int} (hp : p = 0 ∨ p = 1) (ht : top = topF f (moF f 0 + moF f 1)) : vd (f 0) (f 2) top (twF f p) (moF f p) (moF f (1 - p)) := by
  have h1 := (moF_b (p := p) ok).1
  have h2 := (moF_b (p := 1 - p) ok).1
  obtain ⟨o0, o1, o2, o3, o4, o5, o7, o9, o10, o12, o13, -⟩ := ok
  refine ⟨?_, ?_, h1, h2, fun q => ?_, fun q => ?_⟩
  · unfold twF; split <;> omega
  · unfold twF; split <;> omega
  · rw [ht]
    unfold topF
    rw [if_pos q]
    rcases hp with rfl | rfl
    · rfl
    · exact Int.add_comm _ _
  · rw [ht]
    unfold topF
    rw [if_neg (by omega)]
    have := o13 q
    unfold moF hoF
    constructor <;> (split <;> omega)
theorem pr_b {f : Int → Int} (ok : okF f) {b a : Int} (hb : 0 ≤ b ∧ b ≤ moF f (f 5)) (ha : 0 ≤ a ∧ a ≤ moF f (1 - f 5)) : 0 ≤ prF f b a ∧ prF f b a ≤ moF f (tkF f b a) := by
  have o5 := ok.2.2.2.2.2.1
  have ht := tkF_b ok b a
  unfold prF
  split
  · next q => rw [q]; exact hb
  · next q => rw [show tkF f b a = 1 - f 5 by omega]; exact ha
set_option maxHeartbeats 4000000 in
set_option maxRecDepth 20000 in
theorem c_X0_timeBehind {S : pS} {v g zz oo t ow fo tm w n : Nat} {f tg : Int → Int} {top : Int} (hv : S v = some (oO 0 [.ref g])) (hg : IsG S g zz oo f) (ok : okF f) (T : TbS S t (f 0) (f 3) (f 2) top ow fo tm w n tg) (hT : aB (f 0) (f 3) (f 2) top w 8 tg) (htop : top = topF f (moF f 0 + moF f 1)) (hov : -f 0 < f 4 ∧ f 4 < f 0) {p b a : Int} (hp : p = 0 ∨ p = 1) (hb : 0 ≤ b ∧ b ≤ moF f (f 5)) (ha : 0 ≤ a ∧ a ≤ moF f (1 - f 5)) : Ct yX0_timeBehind cX0_timeBehind 13 (Option.some FieldType.int) 2 0 0 [.ref v, .ref t, .int (iI p), .int (iI b), .int (iI a)] S (kI (tbh f p b a) S) := by
  have ok0 := ok
  have q3 := moF_b (p := f 5) ok
  have q4 := moF_b (p := 1 - f 5) ok
  have q5 := moF_b (p := p) ok
  have q6 := moF_b (p := 1 - p) ok
  obtain ⟨o0, o1, o2, o3, o4, o5, o7, o9, o10, o12, o13, -⟩ := ok
  have q7 : -11 ≤ twF f p ∧ twF f p ≤ 101 := by unfold twF; split <;> omega
  refine Ct.ofJ (by decide +kernel) (Nat.le_of_ble_eq_true rfl) ?_
  refine J_L (L1 := [some (.ref v), some (.ref t), some (.int (iI p)), some (.int (iI b)), some (.int (iI a)), none, none, none, none, none, none, none, none]) rfl ?_
  refine J_aload_n (pc1 := 1) rfl (i := 0) rfl dX0_timeBehind_0 rfl ?_
  refine J_get (pc1 := 4) (j := 0) inUX0 (ci := 0) rfl (by decide) lf_X0_9 dX0_timeBehind_1 rfl hv rfl ?_
  refine J_iload_n (pc1 := 5) rfl (i := 3) rfl dX0_timeBehind_4 rfl ?_
  refine J_iload (pc1 := 7) rfl dX0_timeBehind_5 rfl ?_
  refine J_callVI (pc1 := 10) (As := [.int (iI b), .int (iI a)]) gv_X0_49 yv_X2_takerOf rfl (c_X2_takerOf hg ok0 (b := b) (a := a) (by omega) (by omega)) dX0_timeBehind_7 rfl hg.1 rfl rfl (by omega) (by decide) (Nat.zero_le _) (Nat.zero_le _) (Nat.le_of_ble_eq_true rfl) ?_
  refine J_nm (fun z24 hz24 => ?_)
  have ht01 : z24 = 0 ∨ z24 = 1 := by rw [hz24]; exact tkF_b ok0 b a
  refine J_istore (pc1 := 12) (L1 := [some (.ref v), some (.ref t), some (.int (iI p)), some (.int (iI b)), some (.int (iI a)), some (.int (iI z24)), none, none, none, none, none, none, none]) dX0_timeBehind_10 rfl (by decide) rfl rfl ?_
  refine J_iload (pc1 := 14) rfl dX0_timeBehind_12 rfl ?_
  refine J_aload_n (pc1 := 15) rfl (i := 0) rfl dX0_timeBehind_14 rfl ?_
  refine J_get (pc1 := 18) (j := 0) inUX0 (ci := 0) rfl (by decide) lf_X0_9 dX0_timeBehind_15 rfl hv rfl ?_
  refine J_get (pc1 := 21) (j := 5) inUX2 (ci := 2) rfl (by decide) lf_X0_15 dX0_timeBehind_18 rfl hg.1 rfl ?_
  refine J_icmp_ne (pc1 := 24) (tgt := 28) (by omega) (by omega) (by omega) (by omega) dX0_timeBehind_21 rfl rfl (fun hc1 => ?_) (fun hc1 => ?_)
  · refine J_iload (pc1 := 30) rfl dX0_timeBehind_28 rfl ?_
    refine J_nm (fun z25 hz25 => ?_)
    have hz25p : z25 = prF f b a := by
      unfold prF
      rw [← hz24]
      first | rw [if_pos (by omega), hz25] | rw [if_neg (by omega), hz25]
    have hpb := pr_b ok0 hb ha
    rw [← hz25p, ← hz24] at hpb
    have hga := gaE_b (p := f 2) hpb.1
    refine J_istore (pc1 := 32) (L1 := [some (.ref v), some (.ref t), some (.int (iI p)), some (.int (iI b)), some (.int (iI a)), some (.int (iI z24)), some (.int (iI z25)), none, none, none, none, none, none]) dX0_timeBehind_30 rfl (by decide) rfl rfl ?_
    refine J_aload_n (pc1 := 33) rfl (i := 0) rfl dX0_timeBehind_32 rfl ?_
    refine J_get (pc1 := 36) (j := 0) inUX0 (ci := 0) rfl (by decide) lf_X0_9 dX0_timeBehind_33 rfl hv rfl ?_
    refine J_iload (pc1 := 38) rfl dX0_timeBehind_36 rfl ?_
    refine J_callVI (pc1 := 41) (As := [.int (iI z25)]) gv_X0_52 yv_X2_gainOf rfl (c_X2_gainOf (p := f 2) hg.1 (by omega)) dX0_timeBehind_38 rfl hg.1 rfl rfl (by omega) (by decide) (Nat.zero_le _) (Nat.zero_le _) (Nat.le_of_ble_eq_true rfl) ?_
    refine J_istore (pc1 := 43) (L1 := [some (.ref v), some (.ref t), some (.int (iI p)), some (.int (iI b)), some (.int (iI a)), some (.int (iI z24)), some (.int (iI z25)), some (.int (iI (gaE (f 2) z25))), none, none, none, none, none]) dX0_timeBehind_41 rfl (by decide) rfl rfl ?_
    refine J_iload (pc1 := 45) rfl dX0_timeBehind_43 rfl ?_
    refine J_iload_n (pc1 := 46) rfl (i := 2) rfl dX0_timeBehind_45 rfl ?_
    refine J_icmp_ne (pc1 := 49) (tgt := 53) (by omega) (by omega) (by omega) (by omega) dX0_timeBehind_46 rfl rfl (fun hc2 => ?_) (fun hc2 => ?_)
    · refine J_iconst (pc1 := 54) dX0_timeBehind_53 rfl ?_
      refine J_istore (pc1 := 56) (L1 := [some (.ref v), some (.ref t), some (.int (iI p)), some (.int (iI b)), some (.int (iI a)), some (.int (iI z24)), some (.int (iI z25)), some (.int (iI (gaE (f 2) z25))), some (.int (iI 0)), none, none, none, none]) dX0_timeBehind_54 rfl (by decide) rfl rfl ?_
      refine J_aload_n (pc1 := 57) rfl (i := 0) rfl dX0_timeBehind_56 rfl ?_
      refine J_get (pc1 := 60) (j := 0) inUX0 (ci := 0) rfl (by decide) lf_X0_9 dX0_timeBehind_57 rfl hv rfl ?_
      refine J_iload_n (pc1 := 61) rfl (i := 2) rfl dX0_timeBehind_60 rfl ?_
      refine J_callVI (pc1 := 64) (As := [.int (iI p)]) gv_X0_55 yv_X2_toWin rfl (c_X2_toWin hg hp) dX0_timeBehind_61 rfl hg.1 rfl rfl (by omega) (by decide) (Nat.zero_le _) (Nat.zero_le _) (Nat.le_of_ble_eq_true rfl) ?_
      refine J_iload (pc1 := 66) rfl dX0_timeBehind_64 rfl ?_
      refine J_if_eq (pc1 := 69) (tgt := 73) (by decide) (by decide) dX0_timeBehind_66 rfl rfl (fun hc3 => ?_) (fun hc3 => ?_)
      · refine J_iconst (pc1 := 74) dX0_timeBehind_73 rfl ?_
        refine J_iadd (pc1 := 75) dX0_timeBehind_74 rfl ?_
        refine J_istore (pc1 := 77) (L1 := [some (.ref v), some (.ref t), some (.int (iI p)), some (.int (iI b)), some (.int (iI a)), some (.int (iI z24)), some (.int (iI z25)), some (.int (iI (gaE (f 2) z25))), some (.int (iI 0)), some (.int (iI ((twF f p) + 1))), none, none, none]) dX0_timeBehind_75 rfl (by decide) rfl rfl ?_
        refine J_aload_n (pc1 := 78) rfl (i := 0) rfl dX0_timeBehind_77 rfl ?_
        refine J_get (pc1 := 81) (j := 0) inUX0 (ci := 0) rfl (by decide) lf_X0_9 dX0_timeBehind_78 rfl hv rfl ?_
        refine J_iload_n (pc1 := 82) rfl (i := 2) rfl dX0_timeBehind_81 rfl ?_
        refine J_callVI (pc1 := 85) (As := [.int (iI p)]) gv_X0_21 yv_X2_mostOf rfl (c_X2_mostOf hg (p := p) (by omega)) dX0_timeBehind_82 rfl hg.1 rfl rfl (by omega) (by decide) (Nat.zero_le _) (Nat.zero_le _) (Nat.le_of_ble_eq_true rfl) ?_
        refine J_iload (pc1 := 87) rfl dX0_timeBehind_85 rfl ?_
        refine J_if_eq (pc1 := 90) (tgt := 96) (by decide) (by decide) dX0_timeBehind_87 rfl rfl (fun hc4 => ?_) (fun hc4 => ?_)
        · refine J_iload (pc1 := 98) rfl dX0_timeBehind_96 rfl ?_
          refine J_iadd (pc1 := 99) dX0_timeBehind_98 rfl ?_
          refine J_istore (pc1 := 101) (L1 := [some (.ref v), some (.ref t), some (.int (iI p)), some (.int (iI b)), some (.int (iI a)), some (.int (iI z24)), some (.int (iI z25)), some (.int (iI (gaE (f 2) z25))), some (.int (iI 0)), some (.int (iI ((twF f p) + 1))), some (.int (iI ((moF f p) + (gaE (f 2) z25)))), none, none]) dX0_timeBehind_99 rfl (by decide) rfl rfl ?_
          refine J_aload_n (pc1 := 102) rfl (i := 0) rfl dX0_timeBehind_101 rfl ?_
          refine J_get (pc1 := 105) (j := 0) inUX0 (ci := 0) rfl (by decide) lf_X0_9 dX0_timeBehind_102 rfl hv rfl ?_
          refine J_iconst (pc1 := 106) dX0_timeBehind_105 rfl ?_
          refine J_iload_n (pc1 := 107) rfl (i := 2) rfl dX0_timeBehind_106 rfl ?_
          refine J_isub (pc1 := 108) dX0_timeBehind_107 rfl ?_
          refine J_callVI (pc1 := 111) (As := [.int (iI (1 - p))]) gv_X0_21 yv_X2_mostOf rfl (c_X2_mostOf hg (p := 1 - p) (by omega)) dX0_timeBehind_108 rfl hg.1 rfl rfl (by omega) (by decide) (Nat.zero_le _) (Nat.zero_le _) (Nat.le_of_ble_eq_true rfl) ?_
          refine J_iload (pc1 := 113) rfl dX0_timeBehind_111 rfl ?_
          refine J_if_eq (pc1 := 116) (tgt := 121) (by decide) (by decide) dX0_timeBehind_113 rfl rfl (fun hc5 => ?_) (fun hc5 => ?_)
          · refine J_iload (pc1 := 123) rfl dX0_timeBehind_121 rfl ?_
            refine J_ineg (pc1 := 124) dX0_timeBehind_123 rfl ?_
            refine J_iadd (pc1 := 125) dX0_timeBehind_124 rfl ?_
            refine J_istore (pc1 := 127) (L1 := [some (.ref v), some (.ref t), some (.int (iI p)), some (.int (iI b)), some (.int (iI a)), some (.int (iI z24)), some (.int (iI z25)), some (.int (iI (gaE (f 2) z25))), some (.int (iI 0)), some (.int (iI ((twF f p) + 1))), some (.int (iI ((moF f p) + (gaE (f 2) z25)))), some (.int (iI ((moF f (1 - p)) + (-z25)))), none]) dX0_timeBehind_125 rfl (by decide) rfl rfl ?_
            refine J_aload_n (pc1 := 128) rfl (i := 1) rfl dX0_timeBehind_127 rfl ?_
            refine J_iload (pc1 := 130) rfl dX0_timeBehind_128 rfl ?_
            refine J_iload (pc1 := 132) rfl dX0_timeBehind_130 rfl ?_
            refine J_iload (pc1 := 134) rfl dX0_timeBehind_132 rfl ?_
            refine J_iload_n (pc1 := 135) rfl (i := 2) rfl dX0_timeBehind_134 rfl ?_
            refine J_aload_n (pc1 := 136) rfl (i := 0) rfl dX0_timeBehind_135 rfl ?_
            refine J_get (pc1 := 139) (j := 0) inUX0 (ci := 0) rfl (by decide) lf_X0_9 dX0_timeBehind_136 rfl hv rfl ?_
            refine J_get (pc1 := 142) (j := 5) inUX2 (ci := 2) rfl (by decide) lf_X0_15 dX0_timeBehind_139 rfl hg.1 rfl ?_
            refine J_icmp_eq (pc1 := 145) (tgt := 149) (by omega) (by omega) (by omega) (by omega) dX0_timeBehind_142 rfl rfl (fun hc6 => ?_) (fun hc6 => ?_)
            · refine J_iconst (pc1 := 150) dX0_timeBehind_149 rfl ?_
              have hv0 := vd_f ok0 hp htop
              have htw : -f 0 < f 4 ∧ f 4 < f 0 := hov
              have htw2 : 0 < twF f p ∧ twF f p < 2 * f 0 := by unfold twF; split <;> omega
              have hv2 := vd_ls o2 hv0 htw2.2 hpb.1 ((show z24 = 1 - p by omega) ▸ hpb.2)
              have hv3 : vd (f 0) (f 2) top ((twF f p) + 1) ((moF f p) + (gaE (f 2) z25)) ((moF f (1 - p)) + (-z25)) := by
                rw [show (twF f p) + 1 = twF f p + 1 by omega, show (moF f p) + (gaE (f 2) z25) = moF f p + gaE (f 2) z25 by omega, show (moF f (1 - p)) + (-z25) = moF f (1 - p) - z25 by omega]
                exact hv2
              refine J_callVI (pc1 := 153) (As := [.int (iI ((twF f p) + 1)), .int (iI ((moF f p) + (gaE (f 2) z25))), .int (iI ((moF f (1 - p)) + (-z25))), .int (iI 0)]) gv_X0_58 yv_X8_timeAt rfl (c_X8_timeAt (tw := (twF f p) + 1) (o := (moF f p) + (gaE (f 2) z25)) (f := (moF f (1 - p)) + (-z25)) (b := 0) T hv3 (by omega)) dX0_timeBehind_150 rfl T.1 rfl rfl (by omega) (by decide) (Nat.zero_le _) (Nat.zero_le _) (Nat.le_of_ble_eq_true rfl) ?_
              rw [show tg (ixF (f 2) top w ((twF f p) + 1) ((moF f p) + (gaE (f 2) z25)) ((moF f (1 - p)) + (-z25)) 0) = tT (f 0) (f 3) (f 2) ((twF f p) + 1) ((moF f p) + (gaE (f 2) z25)) ((moF f (1 - p)) + (-z25)) 0 from tB_8 (hT _ _ _ _ hv3 (by omega))]
              have hb9 := tT_b (f 0) (f 3) (f 2) ((twF f p) + 1) ((moF f p) + (gaE (f 2) z25)) ((moF f (1 - p)) + (-z25)) 0
              refine J_istore (pc1 := 155) (L1 := [some (.ref v), some (.ref t), some (.int (iI p)), some (.int (iI b)), some (.int (iI a)), some (.int (iI z24)), some (.int (iI z25)), some (.int (iI (gaE (f 2) z25))), some (.int (iI 0)), some (.int (iI ((twF f p) + 1))), some (.int (iI ((moF f p) + (gaE (f 2) z25)))), some (.int (iI ((moF f (1 - p)) + (-z25)))), some (.int (iI (tT (f 0) (f 3) (f 2) ((twF f p) + 1) ((moF f p) + (gaE (f 2) z25)) ((moF f (1 - p)) + (-z25)) 0)))]) dX0_timeBehind_153 rfl (by decide) rfl rfl ?_
              refine J_iload (pc1 := 157) rfl dX0_timeBehind_155 rfl ?_
              refine J_bipush (pc1 := 159) (by decide) dX0_timeBehind_157 rfl ?_
              refine J_icmp_ge (pc1 := 162) (tgt := 167) (by omega) (by omega) (by decide) (by decide) dX0_timeBehind_159 rfl rfl (fun hc7 => ?_) (fun hc7 => ?_)
              · refine J_bipush (pc1 := 169) (by decide) dX0_timeBehind_167 rfl ?_
                exact J_iret rfl rfl dX0_timeBehind_169 (Nat.le_refl _) (Nat.le_refl _) (kI_mk (by first | (exfalso; omega) | skip; unfold tbh; rw [← hz24, ← hz25p]; unfold tmN; (first | (rw [if_pos (show z24 = p by omega), if_pos (show z24 = p by omega), if_pos (show z24 = p by omega)]) | (rw [if_neg (show ¬ z24 = p by omega), if_neg (show ¬ z24 = p by omega), if_neg (show ¬ z24 = p by omega)])); (first | rw [← bZ_t (show ¬ p = f 5 by omega)] | rw [← bZ_f (show ¬ ¬ p = f 5 by omega)]); unfold capT; first | exact (if_pos (by assumption)).symm | exact (if_neg (by assumption)).symm | exact (if_pos (by omega)).symm | exact (if_neg (by omega)).symm))
              · refine J_iload (pc1 := 164) rfl dX0_timeBehind_162 rfl ?_
                refine J_goto (tgt := 169) dX0_timeBehind_164 rfl ?_
                exact J_iret rfl rfl dX0_timeBehind_169 (Nat.le_refl _) (Nat.le_refl _) (kI_mk (by first | (exfalso; omega) | skip; unfold tbh; rw [← hz24, ← hz25p]; unfold tmN; (first | (rw [if_pos (show z24 = p by omega), if_pos (show z24 = p by omega), if_pos (show z24 = p by omega)]) | (rw [if_neg (show ¬ z24 = p by omega), if_neg (show ¬ z24 = p by omega), if_neg (show ¬ z24 = p by omega)])); (first | rw [← bZ_t (show ¬ p = f 5 by omega)] | rw [← bZ_f (show ¬ ¬ p = f 5 by omega)]); unfold capT; first | exact (if_pos (by assumption)).symm | exact (if_neg (by assumption)).symm | exact (if_pos (by omega)).symm | exact (if_neg (by omega)).symm))
            · refine J_iconst (pc1 := 146) dX0_timeBehind_145 rfl ?_
              refine J_goto (tgt := 150) dX0_timeBehind_146 rfl ?_
              have hv0 := vd_f ok0 hp htop
              have htw : -f 0 < f 4 ∧ f 4 < f 0 := hov
              have htw2 : 0 < twF f p ∧ twF f p < 2 * f 0 := by unfold twF; split <;> omega
              have hv2 := vd_ls o2 hv0 htw2.2 hpb.1 ((show z24 = 1 - p by omega) ▸ hpb.2)
              have hv3 : vd (f 0) (f 2) top ((twF f p) + 1) ((moF f p) + (gaE (f 2) z25)) ((moF f (1 - p)) + (-z25)) := by
                rw [show (twF f p) + 1 = twF f p + 1 by omega, show (moF f p) + (gaE (f 2) z25) = moF f p + gaE (f 2) z25 by omega, show (moF f (1 - p)) + (-z25) = moF f (1 - p) - z25 by omega]
                exact hv2
              refine J_callVI (pc1 := 153) (As := [.int (iI ((twF f p) + 1)), .int (iI ((moF f p) + (gaE (f 2) z25))), .int (iI ((moF f (1 - p)) + (-z25))), .int (iI 1)]) gv_X0_58 yv_X8_timeAt rfl (c_X8_timeAt (tw := (twF f p) + 1) (o := (moF f p) + (gaE (f 2) z25)) (f := (moF f (1 - p)) + (-z25)) (b := 1) T hv3 (by omega)) dX0_timeBehind_150 rfl T.1 rfl rfl (by omega) (by decide) (Nat.zero_le _) (Nat.zero_le _) (Nat.le_of_ble_eq_true rfl) ?_
              rw [show tg (ixF (f 2) top w ((twF f p) + 1) ((moF f p) + (gaE (f 2) z25)) ((moF f (1 - p)) + (-z25)) 1) = tT (f 0) (f 3) (f 2) ((twF f p) + 1) ((moF f p) + (gaE (f 2) z25)) ((moF f (1 - p)) + (-z25)) 1 from tB_8 (hT _ _ _ _ hv3 (by omega))]
              have hb9 := tT_b (f 0) (f 3) (f 2) ((twF f p) + 1) ((moF f p) + (gaE (f 2) z25)) ((moF f (1 - p)) + (-z25)) 1
              refine J_istore (pc1 := 155) (L1 := [some (.ref v), some (.ref t), some (.int (iI p)), some (.int (iI b)), some (.int (iI a)), some (.int (iI z24)), some (.int (iI z25)), some (.int (iI (gaE (f 2) z25))), some (.int (iI 0)), some (.int (iI ((twF f p) + 1))), some (.int (iI ((moF f p) + (gaE (f 2) z25)))), some (.int (iI ((moF f (1 - p)) + (-z25)))), some (.int (iI (tT (f 0) (f 3) (f 2) ((twF f p) + 1) ((moF f p) + (gaE (f 2) z25)) ((moF f (1 - p)) + (-z25)) 1)))]) dX0_timeBehind_153 rfl (by decide) rfl rfl ?_
              refine J_iload (pc1 := 157) rfl dX0_timeBehind_155 rfl ?_
              refine J_bipush (pc1 := 159) (by decide) dX0_timeBehind_157 rfl ?_
              refine J_icmp_ge (pc1 := 162) (tgt := 167) (by omega) (by omega) (by decide) (by decide) dX0_timeBehind_159 rfl rfl (fun hc8 => ?_) (fun hc8 => ?_)
              · refine J_bipush (pc1 := 169) (by decide) dX0_timeBehind_167 rfl ?_
                exact J_iret rfl rfl dX0_timeBehind_169 (Nat.le_refl _) (Nat.le_refl _) (kI_mk (by first | (exfalso; omega) | skip; unfold tbh; rw [← hz24, ← hz25p]; unfold tmN; (first | (rw [if_pos (show z24 = p by omega), if_pos (show z24 = p by omega), if_pos (show z24 = p by omega)]) | (rw [if_neg (show ¬ z24 = p by omega), if_neg (show ¬ z24 = p by omega), if_neg (show ¬ z24 = p by omega)])); (first | rw [← bZ_t (show ¬ p = f 5 by omega)] | rw [← bZ_f (show ¬ ¬ p = f 5 by omega)]); unfold capT; first | exact (if_pos (by assumption)).symm | exact (if_neg (by assumption)).symm | exact (if_pos (by omega)).symm | exact (if_neg (by omega)).symm))
              · refine J_iload (pc1 := 164) rfl dX0_timeBehind_162 rfl ?_
                refine J_goto (tgt := 169) dX0_timeBehind_164 rfl ?_
                exact J_iret rfl rfl dX0_timeBehind_169 (Nat.le_refl _) (Nat.le_refl _) (kI_mk (by first | (exfalso; omega) | skip; unfold tbh; rw [← hz24, ← hz25p]; unfold tmN; (first | (rw [if_pos (show z24 = p by omega), if_pos (show z24 = p by omega), if_pos (show z24 = p by omega)]) | (rw [if_neg (show ¬ z24 = p by omega), if_neg (show ¬ z24 = p by omega), if_neg (show ¬ z24 = p by omega)])); (first | rw [← bZ_t (show ¬ p = f 5 by omega)] | rw [← bZ_f (show ¬ ¬ p = f 5 by omega)]); unfold capT; first | exact (if_pos (by assumption)).symm | exact (if_neg (by assumption)).symm | exact (if_pos (by omega)).symm | exact (if_neg (by omega)).symm))
          · exact absurd hc5 (by decide)
        · exact absurd hc4 (by decide)
      · exact absurd hc3 (by decide)
    · refine J_iconst (pc1 := 50) dX0_timeBehind_49 rfl ?_
      refine J_goto (tgt := 54) dX0_timeBehind_50 rfl ?_
      refine J_istore (pc1 := 56) (L1 := [some (.ref v), some (.ref t), some (.int (iI p)), some (.int (iI b)), some (.int (iI a)), some (.int (iI z24)), some (.int (iI z25)), some (.int (iI (gaE (f 2) z25))), some (.int (iI 1)), none, none, none, none]) dX0_timeBehind_54 rfl (by decide) rfl rfl ?_
      refine J_aload_n (pc1 := 57) rfl (i := 0) rfl dX0_timeBehind_56 rfl ?_
      refine J_get (pc1 := 60) (j := 0) inUX0 (ci := 0) rfl (by decide) lf_X0_9 dX0_timeBehind_57 rfl hv rfl ?_
      refine J_iload_n (pc1 := 61) rfl (i := 2) rfl dX0_timeBehind_60 rfl ?_
      refine J_callVI (pc1 := 64) (As := [.int (iI p)]) gv_X0_55 yv_X2_toWin rfl (c_X2_toWin hg hp) dX0_timeBehind_61 rfl hg.1 rfl rfl (by omega) (by decide) (Nat.zero_le _) (Nat.zero_le _) (Nat.le_of_ble_eq_true rfl) ?_
      refine J_iload (pc1 := 66) rfl dX0_timeBehind_64 rfl ?_
      refine J_if_eq (pc1 := 69) (tgt := 73) (by decide) (by decide) dX0_timeBehind_66 rfl rfl (fun hc9 => ?_) (fun hc9 => ?_)
      · exact absurd hc9 (by decide)
      · refine J_iconst (pc1 := 70) dX0_timeBehind_69 rfl ?_
        refine J_goto (tgt := 74) dX0_timeBehind_70 rfl ?_
        refine J_iadd (pc1 := 75) dX0_timeBehind_74 rfl ?_
        refine J_istore (pc1 := 77) (L1 := [some (.ref v), some (.ref t), some (.int (iI p)), some (.int (iI b)), some (.int (iI a)), some (.int (iI z24)), some (.int (iI z25)), some (.int (iI (gaE (f 2) z25))), some (.int (iI 1)), some (.int (iI ((twF f p) + (-1)))), none, none, none]) dX0_timeBehind_75 rfl (by decide) rfl rfl ?_
        refine J_aload_n (pc1 := 78) rfl (i := 0) rfl dX0_timeBehind_77 rfl ?_
        refine J_get (pc1 := 81) (j := 0) inUX0 (ci := 0) rfl (by decide) lf_X0_9 dX0_timeBehind_78 rfl hv rfl ?_
        refine J_iload_n (pc1 := 82) rfl (i := 2) rfl dX0_timeBehind_81 rfl ?_
        refine J_callVI (pc1 := 85) (As := [.int (iI p)]) gv_X0_21 yv_X2_mostOf rfl (c_X2_mostOf hg (p := p) (by omega)) dX0_timeBehind_82 rfl hg.1 rfl rfl (by omega) (by decide) (Nat.zero_le _) (Nat.zero_le _) (Nat.le_of_ble_eq_true rfl) ?_
        refine J_iload (pc1 := 87) rfl dX0_timeBehind_85 rfl ?_
        refine J_if_eq (pc1 := 90) (tgt := 96) (by decide) (by decide) dX0_timeBehind_87 rfl rfl (fun hc10 => ?_) (fun hc10 => ?_)
        · exact absurd hc10 (by decide)
        · refine J_iload (pc1 := 92) rfl dX0_timeBehind_90 rfl ?_
          refine J_ineg (pc1 := 93) dX0_timeBehind_92 rfl ?_
          refine J_goto (tgt := 98) dX0_timeBehind_93 rfl ?_
          refine J_iadd (pc1 := 99) dX0_timeBehind_98 rfl ?_
          refine J_istore (pc1 := 101) (L1 := [some (.ref v), some (.ref t), some (.int (iI p)), some (.int (iI b)), some (.int (iI a)), some (.int (iI z24)), some (.int (iI z25)), some (.int (iI (gaE (f 2) z25))), some (.int (iI 1)), some (.int (iI ((twF f p) + (-1)))), some (.int (iI ((moF f p) + (-z25)))), none, none]) dX0_timeBehind_99 rfl (by decide) rfl rfl ?_
          refine J_aload_n (pc1 := 102) rfl (i := 0) rfl dX0_timeBehind_101 rfl ?_
          refine J_get (pc1 := 105) (j := 0) inUX0 (ci := 0) rfl (by decide) lf_X0_9 dX0_timeBehind_102 rfl hv rfl ?_
          refine J_iconst (pc1 := 106) dX0_timeBehind_105 rfl ?_
          refine J_iload_n (pc1 := 107) rfl (i := 2) rfl dX0_timeBehind_106 rfl ?_
          refine J_isub (pc1 := 108) dX0_timeBehind_107 rfl ?_
          refine J_callVI (pc1 := 111) (As := [.int (iI (1 - p))]) gv_X0_21 yv_X2_mostOf rfl (c_X2_mostOf hg (p := 1 - p) (by omega)) dX0_timeBehind_108 rfl hg.1 rfl rfl (by omega) (by decide) (Nat.zero_le _) (Nat.zero_le _) (Nat.le_of_ble_eq_true rfl) ?_
          refine J_iload (pc1 := 113) rfl dX0_timeBehind_111 rfl ?_
          refine J_if_eq (pc1 := 116) (tgt := 121) (by decide) (by decide) dX0_timeBehind_113 rfl rfl (fun hc11 => ?_) (fun hc11 => ?_)
          · exact absurd hc11 (by decide)
          · refine J_iload (pc1 := 118) rfl dX0_timeBehind_116 rfl ?_
            refine J_goto (tgt := 124) dX0_timeBehind_118 rfl ?_
            refine J_iadd (pc1 := 125) dX0_timeBehind_124 rfl ?_
            refine J_istore (pc1 := 127) (L1 := [some (.ref v), some (.ref t), some (.int (iI p)), some (.int (iI b)), some (.int (iI a)), some (.int (iI z24)), some (.int (iI z25)), some (.int (iI (gaE (f 2) z25))), some (.int (iI 1)), some (.int (iI ((twF f p) + (-1)))), some (.int (iI ((moF f p) + (-z25)))), some (.int (iI ((moF f (1 - p)) + (gaE (f 2) z25)))), none]) dX0_timeBehind_125 rfl (by decide) rfl rfl ?_
            refine J_aload_n (pc1 := 128) rfl (i := 1) rfl dX0_timeBehind_127 rfl ?_
            refine J_iload (pc1 := 130) rfl dX0_timeBehind_128 rfl ?_
            refine J_iload (pc1 := 132) rfl dX0_timeBehind_130 rfl ?_
            refine J_iload (pc1 := 134) rfl dX0_timeBehind_132 rfl ?_
            refine J_iload_n (pc1 := 135) rfl (i := 2) rfl dX0_timeBehind_134 rfl ?_
            refine J_aload_n (pc1 := 136) rfl (i := 0) rfl dX0_timeBehind_135 rfl ?_
            refine J_get (pc1 := 139) (j := 0) inUX0 (ci := 0) rfl (by decide) lf_X0_9 dX0_timeBehind_136 rfl hv rfl ?_
            refine J_get (pc1 := 142) (j := 5) inUX2 (ci := 2) rfl (by decide) lf_X0_15 dX0_timeBehind_139 rfl hg.1 rfl ?_
            refine J_icmp_eq (pc1 := 145) (tgt := 149) (by omega) (by omega) (by omega) (by omega) dX0_timeBehind_142 rfl rfl (fun hc12 => ?_) (fun hc12 => ?_)
            · refine J_iconst (pc1 := 150) dX0_timeBehind_149 rfl ?_
              have hv0 := vd_f ok0 hp htop
              have htw : -f 0 < f 4 ∧ f 4 < f 0 := hov
              have htw2 : 0 < twF f p ∧ twF f p < 2 * f 0 := by unfold twF; split <;> omega
              have hv2 := vd_tk o2 hv0 htw2.1 hpb.1 ((show z24 = p by omega) ▸ hpb.2)
              have hv3 : vd (f 0) (f 2) top ((twF f p) + (-1)) ((moF f p) + (-z25)) ((moF f (1 - p)) + (gaE (f 2) z25)) := by
                rw [show (twF f p) + (-1) = twF f p - 1 by omega, show (moF f p) + (-z25) = moF f p - z25 by omega, show (moF f (1 - p)) + (gaE (f 2) z25) = moF f (1 - p) + gaE (f 2) z25 by omega]
                exact hv2
              refine J_callVI (pc1 := 153) (As := [.int (iI ((twF f p) + (-1))), .int (iI ((moF f p) + (-z25))), .int (iI ((moF f (1 - p)) + (gaE (f 2) z25))), .int (iI 0)]) gv_X0_58 yv_X8_timeAt rfl (c_X8_timeAt (tw := (twF f p) + (-1)) (o := (moF f p) + (-z25)) (f := (moF f (1 - p)) + (gaE (f 2) z25)) (b := 0) T hv3 (by omega)) dX0_timeBehind_150 rfl T.1 rfl rfl (by omega) (by decide) (Nat.zero_le _) (Nat.zero_le _) (Nat.le_of_ble_eq_true rfl) ?_
              rw [show tg (ixF (f 2) top w ((twF f p) + (-1)) ((moF f p) + (-z25)) ((moF f (1 - p)) + (gaE (f 2) z25)) 0) = tT (f 0) (f 3) (f 2) ((twF f p) + (-1)) ((moF f p) + (-z25)) ((moF f (1 - p)) + (gaE (f 2) z25)) 0 from tB_8 (hT _ _ _ _ hv3 (by omega))]
              have hb9 := tT_b (f 0) (f 3) (f 2) ((twF f p) + (-1)) ((moF f p) + (-z25)) ((moF f (1 - p)) + (gaE (f 2) z25)) 0
              refine J_istore (pc1 := 155) (L1 := [some (.ref v), some (.ref t), some (.int (iI p)), some (.int (iI b)), some (.int (iI a)), some (.int (iI z24)), some (.int (iI z25)), some (.int (iI (gaE (f 2) z25))), some (.int (iI 1)), some (.int (iI ((twF f p) + (-1)))), some (.int (iI ((moF f p) + (-z25)))), some (.int (iI ((moF f (1 - p)) + (gaE (f 2) z25)))), some (.int (iI (tT (f 0) (f 3) (f 2) ((twF f p) + (-1)) ((moF f p) + (-z25)) ((moF f (1 - p)) + (gaE (f 2) z25)) 0)))]) dX0_timeBehind_153 rfl (by decide) rfl rfl ?_
              refine J_iload (pc1 := 157) rfl dX0_timeBehind_155 rfl ?_
              refine J_bipush (pc1 := 159) (by decide) dX0_timeBehind_157 rfl ?_
              refine J_icmp_ge (pc1 := 162) (tgt := 167) (by omega) (by omega) (by decide) (by decide) dX0_timeBehind_159 rfl rfl (fun hc13 => ?_) (fun hc13 => ?_)
              · refine J_bipush (pc1 := 169) (by decide) dX0_timeBehind_167 rfl ?_
                exact J_iret rfl rfl dX0_timeBehind_169 (Nat.le_refl _) (Nat.le_refl _) (kI_mk (by first | (exfalso; omega) | skip; unfold tbh; rw [← hz24, ← hz25p]; unfold tmN; (first | (rw [if_pos (show z24 = p by omega), if_pos (show z24 = p by omega), if_pos (show z24 = p by omega)]) | (rw [if_neg (show ¬ z24 = p by omega), if_neg (show ¬ z24 = p by omega), if_neg (show ¬ z24 = p by omega)])); (first | rw [← bZ_t (show ¬ p = f 5 by omega)] | rw [← bZ_f (show ¬ ¬ p = f 5 by omega)]); unfold capT; first | exact (if_pos (by assumption)).symm | exact (if_neg (by assumption)).symm | exact (if_pos (by omega)).symm | exact (if_neg (by omega)).symm))
              · refine J_iload (pc1 := 164) rfl dX0_timeBehind_162 rfl ?_
                refine J_goto (tgt := 169) dX0_timeBehind_164 rfl ?_
                exact J_iret rfl rfl dX0_timeBehind_169 (Nat.le_refl _) (Nat.le_refl _) (kI_mk (by first | (exfalso; omega) | skip; unfold tbh; rw [← hz24, ← hz25p]; unfold tmN; (first | (rw [if_pos (show z24 = p by omega), if_pos (show z24 = p by omega), if_pos (show z24 = p by omega)]) | (rw [if_neg (show ¬ z24 = p by omega), if_neg (show ¬ z24 = p by omega), if_neg (show ¬ z24 = p by omega)])); (first | rw [← bZ_t (show ¬ p = f 5 by omega)] | rw [← bZ_f (show ¬ ¬ p = f 5 by omega)]); unfold capT; first | exact (if_pos (by assumption)).symm | exact (if_neg (by assumption)).symm | exact (if_pos (by omega)).symm | exact (if_neg (by omega)).symm))
            · refine J_iconst (pc1 := 146) dX0_timeBehind_145 rfl ?_
              refine J_goto (tgt := 150) dX0_timeBehind_146 rfl ?_
              have hv0 := vd_f ok0 hp htop
              have htw : -f 0 < f 4 ∧ f 4 < f 0 := hov
              have htw2 : 0 < twF f p ∧ twF f p < 2 * f 0 := by unfold twF; split <;> omega
              have hv2 := vd_tk o2 hv0 htw2.1 hpb.1 ((show z24 = p by omega) ▸ hpb.2)
              have hv3 : vd (f 0) (f 2) top ((twF f p) + (-1)) ((moF f p) + (-z25)) ((moF f (1 - p)) + (gaE (f 2) z25)) := by
                rw [show (twF f p) + (-1) = twF f p - 1 by omega, show (moF f p) + (-z25) = moF f p - z25 by omega, show (moF f (1 - p)) + (gaE (f 2) z25) = moF f (1 - p) + gaE (f 2) z25 by omega]
                exact hv2
              refine J_callVI (pc1 := 153) (As := [.int (iI ((twF f p) + (-1))), .int (iI ((moF f p) + (-z25))), .int (iI ((moF f (1 - p)) + (gaE (f 2) z25))), .int (iI 1)]) gv_X0_58 yv_X8_timeAt rfl (c_X8_timeAt (tw := (twF f p) + (-1)) (o := (moF f p) + (-z25)) (f := (moF f (1 - p)) + (gaE (f 2) z25)) (b := 1) T hv3 (by omega)) dX0_timeBehind_150 rfl T.1 rfl rfl (by omega) (by decide) (Nat.zero_le _) (Nat.zero_le _) (Nat.le_of_ble_eq_true rfl) ?_
              rw [show tg (ixF (f 2) top w ((twF f p) + (-1)) ((moF f p) + (-z25)) ((moF f (1 - p)) + (gaE (f 2) z25)) 1) = tT (f 0) (f 3) (f 2) ((twF f p) + (-1)) ((moF f p) + (-z25)) ((moF f (1 - p)) + (gaE (f 2) z25)) 1 from tB_8 (hT _ _ _ _ hv3 (by omega))]
              have hb9 := tT_b (f 0) (f 3) (f 2) ((twF f p) + (-1)) ((moF f p) + (-z25)) ((moF f (1 - p)) + (gaE (f 2) z25)) 1
              refine J_istore (pc1 := 155) (L1 := [some (.ref v), some (.ref t), some (.int (iI p)), some (.int (iI b)), some (.int (iI a)), some (.int (iI z24)), some (.int (iI z25)), some (.int (iI (gaE (f 2) z25))), some (.int (iI 1)), some (.int (iI ((twF f p) + (-1)))), some (.int (iI ((moF f p) + (-z25)))), some (.int (iI ((moF f (1 - p)) + (gaE (f 2) z25)))), some (.int (iI (tT (f 0) (f 3) (f 2) ((twF f p) + (-1)) ((moF f p) + (-z25)) ((moF f (1 - p)) + (gaE (f 2) z25)) 1)))]) dX0_timeBehind_153 rfl (by decide) rfl rfl ?_
              refine J_iload (pc1 := 157) rfl dX0_timeBehind_155 rfl ?_
              refine J_bipush (pc1 := 159) (by decide) dX0_timeBehind_157 rfl ?_
              refine J_icmp_ge (pc1 := 162) (tgt := 167) (by omega) (by omega) (by decide) (by decide) dX0_timeBehind_159 rfl rfl (fun hc14 => ?_) (fun hc14 => ?_)
              · refine J_bipush (pc1 := 169) (by decide) dX0_timeBehind_167 rfl ?_
                exact J_iret rfl rfl dX0_timeBehind_169 (Nat.le_refl _) (Nat.le_refl _) (kI_mk (by first | (exfalso; omega) | skip; unfold tbh; rw [← hz24, ← hz25p]; unfold tmN; (first | (rw [if_pos (show z24 = p by omega), if_pos (show z24 = p by omega), if_pos (show z24 = p by omega)]) | (rw [if_neg (show ¬ z24 = p by omega), if_neg (show ¬ z24 = p by omega), if_neg (show ¬ z24 = p by omega)])); (first | rw [← bZ_t (show ¬ p = f 5 by omega)] | rw [← bZ_f (show ¬ ¬ p = f 5 by omega)]); unfold capT; first | exact (if_pos (by assumption)).symm | exact (if_neg (by assumption)).symm | exact (if_pos (by omega)).symm | exact (if_neg (by omega)).symm))
              · refine J_iload (pc1 := 164) rfl dX0_timeBehind_162 rfl ?_
                refine J_goto (tgt := 169) dX0_timeBehind_164 rfl ?_
                exact J_iret rfl rfl dX0_timeBehind_169 (Nat.le_refl _) (Nat.le_refl _) (kI_mk (by first | (exfalso; omega) | skip; unfold tbh; rw [← hz24, ← hz25p]; unfold tmN; (first | (rw [if_pos (show z24 = p by omega), if_pos (show z24 = p by omega), if_pos (show z24 = p by omega)]) | (rw [if_neg (show ¬ z24 = p by omega), if_neg (show ¬ z24 = p by omega), if_neg (show ¬ z24 = p by omega)])); (first | rw [← bZ_t (show ¬ p = f 5 by omega)] | rw [← bZ_f (show ¬ ¬ p = f 5 by omega)]); unfold capT; first | exact (if_pos (by assumption)).symm | exact (if_neg (by assumption)).symm | exact (if_pos (by omega)).symm | exact (if_neg (by omega)).symm))
  · refine J_iload_n (pc1 := 25) rfl (i := 3) rfl dX0_timeBehind_24 rfl ?_
    refine J_goto (tgt := 30) dX0_timeBehind_25 rfl ?_
    refine J_nm (fun z26 hz26 => ?_)
    have hz26p : z26 = prF f b a := by
      unfold prF
      rw [← hz24]
      first | rw [if_pos (by omega), hz26] | rw [if_neg (by omega), hz26]
    have hpb := pr_b ok0 hb ha
    rw [← hz26p, ← hz24] at hpb
    have hga := gaE_b (p := f 2) hpb.1
    refine J_istore (pc1 := 32) (L1 := [some (.ref v), some (.ref t), some (.int (iI p)), some (.int (iI b)), some (.int (iI a)), some (.int (iI z24)), some (.int (iI z26)), none, none, none, none, none, none]) dX0_timeBehind_30 rfl (by decide) rfl rfl ?_
    refine J_aload_n (pc1 := 33) rfl (i := 0) rfl dX0_timeBehind_32 rfl ?_
    refine J_get (pc1 := 36) (j := 0) inUX0 (ci := 0) rfl (by decide) lf_X0_9 dX0_timeBehind_33 rfl hv rfl ?_
    refine J_iload (pc1 := 38) rfl dX0_timeBehind_36 rfl ?_
    refine J_callVI (pc1 := 41) (As := [.int (iI z26)]) gv_X0_52 yv_X2_gainOf rfl (c_X2_gainOf (p := f 2) hg.1 (by omega)) dX0_timeBehind_38 rfl hg.1 rfl rfl (by omega) (by decide) (Nat.zero_le _) (Nat.zero_le _) (Nat.le_of_ble_eq_true rfl) ?_
    refine J_istore (pc1 := 43) (L1 := [some (.ref v), some (.ref t), some (.int (iI p)), some (.int (iI b)), some (.int (iI a)), some (.int (iI z24)), some (.int (iI z26)), some (.int (iI (gaE (f 2) z26))), none, none, none, none, none]) dX0_timeBehind_41 rfl (by decide) rfl rfl ?_
    refine J_iload (pc1 := 45) rfl dX0_timeBehind_43 rfl ?_
    refine J_iload_n (pc1 := 46) rfl (i := 2) rfl dX0_timeBehind_45 rfl ?_
    refine J_icmp_ne (pc1 := 49) (tgt := 53) (by omega) (by omega) (by omega) (by omega) dX0_timeBehind_46 rfl rfl (fun hc15 => ?_) (fun hc15 => ?_)
    · refine J_iconst (pc1 := 54) dX0_timeBehind_53 rfl ?_
      refine J_istore (pc1 := 56) (L1 := [some (.ref v), some (.ref t), some (.int (iI p)), some (.int (iI b)), some (.int (iI a)), some (.int (iI z24)), some (.int (iI z26)), some (.int (iI (gaE (f 2) z26))), some (.int (iI 0)), none, none, none, none]) dX0_timeBehind_54 rfl (by decide) rfl rfl ?_
      refine J_aload_n (pc1 := 57) rfl (i := 0) rfl dX0_timeBehind_56 rfl ?_
      refine J_get (pc1 := 60) (j := 0) inUX0 (ci := 0) rfl (by decide) lf_X0_9 dX0_timeBehind_57 rfl hv rfl ?_
      refine J_iload_n (pc1 := 61) rfl (i := 2) rfl dX0_timeBehind_60 rfl ?_
      refine J_callVI (pc1 := 64) (As := [.int (iI p)]) gv_X0_55 yv_X2_toWin rfl (c_X2_toWin hg hp) dX0_timeBehind_61 rfl hg.1 rfl rfl (by omega) (by decide) (Nat.zero_le _) (Nat.zero_le _) (Nat.le_of_ble_eq_true rfl) ?_
      refine J_iload (pc1 := 66) rfl dX0_timeBehind_64 rfl ?_
      refine J_if_eq (pc1 := 69) (tgt := 73) (by decide) (by decide) dX0_timeBehind_66 rfl rfl (fun hc16 => ?_) (fun hc16 => ?_)
      · refine J_iconst (pc1 := 74) dX0_timeBehind_73 rfl ?_
        refine J_iadd (pc1 := 75) dX0_timeBehind_74 rfl ?_
        refine J_istore (pc1 := 77) (L1 := [some (.ref v), some (.ref t), some (.int (iI p)), some (.int (iI b)), some (.int (iI a)), some (.int (iI z24)), some (.int (iI z26)), some (.int (iI (gaE (f 2) z26))), some (.int (iI 0)), some (.int (iI ((twF f p) + 1))), none, none, none]) dX0_timeBehind_75 rfl (by decide) rfl rfl ?_
        refine J_aload_n (pc1 := 78) rfl (i := 0) rfl dX0_timeBehind_77 rfl ?_
        refine J_get (pc1 := 81) (j := 0) inUX0 (ci := 0) rfl (by decide) lf_X0_9 dX0_timeBehind_78 rfl hv rfl ?_
        refine J_iload_n (pc1 := 82) rfl (i := 2) rfl dX0_timeBehind_81 rfl ?_
        refine J_callVI (pc1 := 85) (As := [.int (iI p)]) gv_X0_21 yv_X2_mostOf rfl (c_X2_mostOf hg (p := p) (by omega)) dX0_timeBehind_82 rfl hg.1 rfl rfl (by omega) (by decide) (Nat.zero_le _) (Nat.zero_le _) (Nat.le_of_ble_eq_true rfl) ?_
        refine J_iload (pc1 := 87) rfl dX0_timeBehind_85 rfl ?_
        refine J_if_eq (pc1 := 90) (tgt := 96) (by decide) (by decide) dX0_timeBehind_87 rfl rfl (fun hc17 => ?_) (fun hc17 => ?_)
        · refine J_iload (pc1 := 98) rfl dX0_timeBehind_96 rfl ?_
          refine J_iadd (pc1 := 99) dX0_timeBehind_98 rfl ?_
          refine J_istore (pc1 := 101) (L1 := [some (.ref v), some (.ref t), some (.int (iI p)), some (.int (iI b)), some (.int (iI a)), some (.int (iI z24)), some (.int (iI z26)), some (.int (iI (gaE (f 2) z26))), some (.int (iI 0)), some (.int (iI ((twF f p) + 1))), some (.int (iI ((moF f p) + (gaE (f 2) z26)))), none, none]) dX0_timeBehind_99 rfl (by decide) rfl rfl ?_
          refine J_aload_n (pc1 := 102) rfl (i := 0) rfl dX0_timeBehind_101 rfl ?_
          refine J_get (pc1 := 105) (j := 0) inUX0 (ci := 0) rfl (by decide) lf_X0_9 dX0_timeBehind_102 rfl hv rfl ?_
          refine J_iconst (pc1 := 106) dX0_timeBehind_105 rfl ?_
          refine J_iload_n (pc1 := 107) rfl (i := 2) rfl dX0_timeBehind_106 rfl ?_
          refine J_isub (pc1 := 108) dX0_timeBehind_107 rfl ?_
          refine J_callVI (pc1 := 111) (As := [.int (iI (1 - p))]) gv_X0_21 yv_X2_mostOf rfl (c_X2_mostOf hg (p := 1 - p) (by omega)) dX0_timeBehind_108 rfl hg.1 rfl rfl (by omega) (by decide) (Nat.zero_le _) (Nat.zero_le _) (Nat.le_of_ble_eq_true rfl) ?_
          refine J_iload (pc1 := 113) rfl dX0_timeBehind_111 rfl ?_
          refine J_if_eq (pc1 := 116) (tgt := 121) (by decide) (by decide) dX0_timeBehind_113 rfl rfl (fun hc18 => ?_) (fun hc18 => ?_)
          · refine J_iload (pc1 := 123) rfl dX0_timeBehind_121 rfl ?_
            refine J_ineg (pc1 := 124) dX0_timeBehind_123 rfl ?_
            refine J_iadd (pc1 := 125) dX0_timeBehind_124 rfl ?_
            refine J_istore (pc1 := 127) (L1 := [some (.ref v), some (.ref t), some (.int (iI p)), some (.int (iI b)), some (.int (iI a)), some (.int (iI z24)), some (.int (iI z26)), some (.int (iI (gaE (f 2) z26))), some (.int (iI 0)), some (.int (iI ((twF f p) + 1))), some (.int (iI ((moF f p) + (gaE (f 2) z26)))), some (.int (iI ((moF f (1 - p)) + (-z26)))), none]) dX0_timeBehind_125 rfl (by decide) rfl rfl ?_
            refine J_aload_n (pc1 := 128) rfl (i := 1) rfl dX0_timeBehind_127 rfl ?_
            refine J_iload (pc1 := 130) rfl dX0_timeBehind_128 rfl ?_
            refine J_iload (pc1 := 132) rfl dX0_timeBehind_130 rfl ?_
            refine J_iload (pc1 := 134) rfl dX0_timeBehind_132 rfl ?_
            refine J_iload_n (pc1 := 135) rfl (i := 2) rfl dX0_timeBehind_134 rfl ?_
            refine J_aload_n (pc1 := 136) rfl (i := 0) rfl dX0_timeBehind_135 rfl ?_
            refine J_get (pc1 := 139) (j := 0) inUX0 (ci := 0) rfl (by decide) lf_X0_9 dX0_timeBehind_136 rfl hv rfl ?_
            refine J_get (pc1 := 142) (j := 5) inUX2 (ci := 2) rfl (by decide) lf_X0_15 dX0_timeBehind_139 rfl hg.1 rfl ?_
            refine J_icmp_eq (pc1 := 145) (tgt := 149) (by omega) (by omega) (by omega) (by omega) dX0_timeBehind_142 rfl rfl (fun hc19 => ?_) (fun hc19 => ?_)
            · refine J_iconst (pc1 := 150) dX0_timeBehind_149 rfl ?_
              have hv0 := vd_f ok0 hp htop
              have htw : -f 0 < f 4 ∧ f 4 < f 0 := hov
              have htw2 : 0 < twF f p ∧ twF f p < 2 * f 0 := by unfold twF; split <;> omega
              have hv2 := vd_ls o2 hv0 htw2.2 hpb.1 ((show z24 = 1 - p by omega) ▸ hpb.2)
              have hv3 : vd (f 0) (f 2) top ((twF f p) + 1) ((moF f p) + (gaE (f 2) z26)) ((moF f (1 - p)) + (-z26)) := by
                rw [show (twF f p) + 1 = twF f p + 1 by omega, show (moF f p) + (gaE (f 2) z26) = moF f p + gaE (f 2) z26 by omega, show (moF f (1 - p)) + (-z26) = moF f (1 - p) - z26 by omega]
                exact hv2
              refine J_callVI (pc1 := 153) (As := [.int (iI ((twF f p) + 1)), .int (iI ((moF f p) + (gaE (f 2) z26))), .int (iI ((moF f (1 - p)) + (-z26))), .int (iI 0)]) gv_X0_58 yv_X8_timeAt rfl (c_X8_timeAt (tw := (twF f p) + 1) (o := (moF f p) + (gaE (f 2) z26)) (f := (moF f (1 - p)) + (-z26)) (b := 0) T hv3 (by omega)) dX0_timeBehind_150 rfl T.1 rfl rfl (by omega) (by decide) (Nat.zero_le _) (Nat.zero_le _) (Nat.le_of_ble_eq_true rfl) ?_
              rw [show tg (ixF (f 2) top w ((twF f p) + 1) ((moF f p) + (gaE (f 2) z26)) ((moF f (1 - p)) + (-z26)) 0) = tT (f 0) (f 3) (f 2) ((twF f p) + 1) ((moF f p) + (gaE (f 2) z26)) ((moF f (1 - p)) + (-z26)) 0 from tB_8 (hT _ _ _ _ hv3 (by omega))]
              have hb9 := tT_b (f 0) (f 3) (f 2) ((twF f p) + 1) ((moF f p) + (gaE (f 2) z26)) ((moF f (1 - p)) + (-z26)) 0
              refine J_istore (pc1 := 155) (L1 := [some (.ref v), some (.ref t), some (.int (iI p)), some (.int (iI b)), some (.int (iI a)), some (.int (iI z24)), some (.int (iI z26)), some (.int (iI (gaE (f 2) z26))), some (.int (iI 0)), some (.int (iI ((twF f p) + 1))), some (.int (iI ((moF f p) + (gaE (f 2) z26)))), some (.int (iI ((moF f (1 - p)) + (-z26)))), some (.int (iI (tT (f 0) (f 3) (f 2) ((twF f p) + 1) ((moF f p) + (gaE (f 2) z26)) ((moF f (1 - p)) + (-z26)) 0)))]) dX0_timeBehind_153 rfl (by decide) rfl rfl ?_
              refine J_iload (pc1 := 157) rfl dX0_timeBehind_155 rfl ?_
              refine J_bipush (pc1 := 159) (by decide) dX0_timeBehind_157 rfl ?_
              refine J_icmp_ge (pc1 := 162) (tgt := 167) (by omega) (by omega) (by decide) (by decide) dX0_timeBehind_159 rfl rfl (fun hc20 => ?_) (fun hc20 => ?_)
              · refine J_bipush (pc1 := 169) (by decide) dX0_timeBehind_167 rfl ?_
                exact J_iret rfl rfl dX0_timeBehind_169 (Nat.le_refl _) (Nat.le_refl _) (kI_mk (by first | (exfalso; omega) | skip; unfold tbh; rw [← hz24, ← hz26p]; unfold tmN; (first | (rw [if_pos (show z24 = p by omega), if_pos (show z24 = p by omega), if_pos (show z24 = p by omega)]) | (rw [if_neg (show ¬ z24 = p by omega), if_neg (show ¬ z24 = p by omega), if_neg (show ¬ z24 = p by omega)])); (first | rw [← bZ_t (show ¬ p = f 5 by omega)] | rw [← bZ_f (show ¬ ¬ p = f 5 by omega)]); unfold capT; first | exact (if_pos (by assumption)).symm | exact (if_neg (by assumption)).symm | exact (if_pos (by omega)).symm | exact (if_neg (by omega)).symm))
              · refine J_iload (pc1 := 164) rfl dX0_timeBehind_162 rfl ?_
                refine J_goto (tgt := 169) dX0_timeBehind_164 rfl ?_
                exact J_iret rfl rfl dX0_timeBehind_169 (Nat.le_refl _) (Nat.le_refl _) (kI_mk (by first | (exfalso; omega) | skip; unfold tbh; rw [← hz24, ← hz26p]; unfold tmN; (first | (rw [if_pos (show z24 = p by omega), if_pos (show z24 = p by omega), if_pos (show z24 = p by omega)]) | (rw [if_neg (show ¬ z24 = p by omega), if_neg (show ¬ z24 = p by omega), if_neg (show ¬ z24 = p by omega)])); (first | rw [← bZ_t (show ¬ p = f 5 by omega)] | rw [← bZ_f (show ¬ ¬ p = f 5 by omega)]); unfold capT; first | exact (if_pos (by assumption)).symm | exact (if_neg (by assumption)).symm | exact (if_pos (by omega)).symm | exact (if_neg (by omega)).symm))
            · refine J_iconst (pc1 := 146) dX0_timeBehind_145 rfl ?_
              refine J_goto (tgt := 150) dX0_timeBehind_146 rfl ?_
              have hv0 := vd_f ok0 hp htop
              have htw : -f 0 < f 4 ∧ f 4 < f 0 := hov
              have htw2 : 0 < twF f p ∧ twF f p < 2 * f 0 := by unfold twF; split <;> omega
              have hv2 := vd_ls o2 hv0 htw2.2 hpb.1 ((show z24 = 1 - p by omega) ▸ hpb.2)
              have hv3 : vd (f 0) (f 2) top ((twF f p) + 1) ((moF f p) + (gaE (f 2) z26)) ((moF f (1 - p)) + (-z26)) := by
                rw [show (twF f p) + 1 = twF f p + 1 by omega, show (moF f p) + (gaE (f 2) z26) = moF f p + gaE (f 2) z26 by omega, show (moF f (1 - p)) + (-z26) = moF f (1 - p) - z26 by omega]
                exact hv2
              refine J_callVI (pc1 := 153) (As := [.int (iI ((twF f p) + 1)), .int (iI ((moF f p) + (gaE (f 2) z26))), .int (iI ((moF f (1 - p)) + (-z26))), .int (iI 1)]) gv_X0_58 yv_X8_timeAt rfl (c_X8_timeAt (tw := (twF f p) + 1) (o := (moF f p) + (gaE (f 2) z26)) (f := (moF f (1 - p)) + (-z26)) (b := 1) T hv3 (by omega)) dX0_timeBehind_150 rfl T.1 rfl rfl (by omega) (by decide) (Nat.zero_le _) (Nat.zero_le _) (Nat.le_of_ble_eq_true rfl) ?_
              rw [show tg (ixF (f 2) top w ((twF f p) + 1) ((moF f p) + (gaE (f 2) z26)) ((moF f (1 - p)) + (-z26)) 1) = tT (f 0) (f 3) (f 2) ((twF f p) + 1) ((moF f p) + (gaE (f 2) z26)) ((moF f (1 - p)) + (-z26)) 1 from tB_8 (hT _ _ _ _ hv3 (by omega))]
              have hb9 := tT_b (f 0) (f 3) (f 2) ((twF f p) + 1) ((moF f p) + (gaE (f 2) z26)) ((moF f (1 - p)) + (-z26)) 1
              refine J_istore (pc1 := 155) (L1 := [some (.ref v), some (.ref t), some (.int (iI p)), some (.int (iI b)), some (.int (iI a)), some (.int (iI z24)), some (.int (iI z26)), some (.int (iI (gaE (f 2) z26))), some (.int (iI 0)), some (.int (iI ((twF f p) + 1))), some (.int (iI ((moF f p) + (gaE (f 2) z26)))), some (.int (iI ((moF f (1 - p)) + (-z26)))), some (.int (iI (tT (f 0) (f 3) (f 2) ((twF f p) + 1) ((moF f p) + (gaE (f 2) z26)) ((moF f (1 - p)) + (-z26)) 1)))]) dX0_timeBehind_153 rfl (by decide) rfl rfl ?_
              refine J_iload (pc1 := 157) rfl dX0_timeBehind_155 rfl ?_
              refine J_bipush (pc1 := 159) (by decide) dX0_timeBehind_157 rfl ?_
              refine J_icmp_ge (pc1 := 162) (tgt := 167) (by omega) (by omega) (by decide) (by decide) dX0_timeBehind_159 rfl rfl (fun hc21 => ?_) (fun hc21 => ?_)
              · refine J_bipush (pc1 := 169) (by decide) dX0_timeBehind_167 rfl ?_
                exact J_iret rfl rfl dX0_timeBehind_169 (Nat.le_refl _) (Nat.le_refl _) (kI_mk (by first | (exfalso; omega) | skip; unfold tbh; rw [← hz24, ← hz26p]; unfold tmN; (first | (rw [if_pos (show z24 = p by omega), if_pos (show z24 = p by omega), if_pos (show z24 = p by omega)]) | (rw [if_neg (show ¬ z24 = p by omega), if_neg (show ¬ z24 = p by omega), if_neg (show ¬ z24 = p by omega)])); (first | rw [← bZ_t (show ¬ p = f 5 by omega)] | rw [← bZ_f (show ¬ ¬ p = f 5 by omega)]); unfold capT; first | exact (if_pos (by assumption)).symm | exact (if_neg (by assumption)).symm | exact (if_pos (by omega)).symm | exact (if_neg (by omega)).symm))
              · refine J_iload (pc1 := 164) rfl dX0_timeBehind_162 rfl ?_
                refine J_goto (tgt := 169) dX0_timeBehind_164 rfl ?_
                exact J_iret rfl rfl dX0_timeBehind_169 (Nat.le_refl _) (Nat.le_refl _) (kI_mk (by first | (exfalso; omega) | skip; unfold tbh; rw [← hz24, ← hz26p]; unfold tmN; (first | (rw [if_pos (show z24 = p by omega), if_pos (show z24 = p by omega), if_pos (show z24 = p by omega)]) | (rw [if_neg (show ¬ z24 = p by omega), if_neg (show ¬ z24 = p by omega), if_neg (show ¬ z24 = p by omega)])); (first | rw [← bZ_t (show ¬ p = f 5 by omega)] | rw [← bZ_f (show ¬ ¬ p = f 5 by omega)]); unfold capT; first | exact (if_pos (by assumption)).symm | exact (if_neg (by assumption)).symm | exact (if_pos (by omega)).symm | exact (if_neg (by omega)).symm))
          · exact absurd hc18 (by decide)
        · exact absurd hc17 (by decide)
      · exact absurd hc16 (by decide)
    · refine J_iconst (pc1 := 50) dX0_timeBehind_49 rfl ?_
      refine J_goto (tgt := 54) dX0_timeBehind_50 rfl ?_
      refine J_istore (pc1 := 56) (L1 := [some (.ref v), some (.ref t), some (.int (iI p)), some (.int (iI b)), some (.int (iI a)), some (.int (iI z24)), some (.int (iI z26)), some (.int (iI (gaE (f 2) z26))), some (.int (iI 1)), none, none, none, none]) dX0_timeBehind_54 rfl (by decide) rfl rfl ?_
      refine J_aload_n (pc1 := 57) rfl (i := 0) rfl dX0_timeBehind_56 rfl ?_
      refine J_get (pc1 := 60) (j := 0) inUX0 (ci := 0) rfl (by decide) lf_X0_9 dX0_timeBehind_57 rfl hv rfl ?_
      refine J_iload_n (pc1 := 61) rfl (i := 2) rfl dX0_timeBehind_60 rfl ?_
      refine J_callVI (pc1 := 64) (As := [.int (iI p)]) gv_X0_55 yv_X2_toWin rfl (c_X2_toWin hg hp) dX0_timeBehind_61 rfl hg.1 rfl rfl (by omega) (by decide) (Nat.zero_le _) (Nat.zero_le _) (Nat.le_of_ble_eq_true rfl) ?_
      refine J_iload (pc1 := 66) rfl dX0_timeBehind_64 rfl ?_
      refine J_if_eq (pc1 := 69) (tgt := 73) (by decide) (by decide) dX0_timeBehind_66 rfl rfl (fun hc22 => ?_) (fun hc22 => ?_)
      · exact absurd hc22 (by decide)
      · refine J_iconst (pc1 := 70) dX0_timeBehind_69 rfl ?_
        refine J_goto (tgt := 74) dX0_timeBehind_70 rfl ?_
        refine J_iadd (pc1 := 75) dX0_timeBehind_74 rfl ?_
        refine J_istore (pc1 := 77) (L1 := [some (.ref v), some (.ref t), some (.int (iI p)), some (.int (iI b)), some (.int (iI a)), some (.int (iI z24)), some (.int (iI z26)), some (.int (iI (gaE (f 2) z26))), some (.int (iI 1)), some (.int (iI ((twF f p) + (-1)))), none, none, none]) dX0_timeBehind_75 rfl (by decide) rfl rfl ?_
        refine J_aload_n (pc1 := 78) rfl (i := 0) rfl dX0_timeBehind_77 rfl ?_
        refine J_get (pc1 := 81) (j := 0) inUX0 (ci := 0) rfl (by decide) lf_X0_9 dX0_timeBehind_78 rfl hv rfl ?_
        refine J_iload_n (pc1 := 82) rfl (i := 2) rfl dX0_timeBehind_81 rfl ?_
        refine J_callVI (pc1 := 85) (As := [.int (iI p)]) gv_X0_21 yv_X2_mostOf rfl (c_X2_mostOf hg (p := p) (by omega)) dX0_timeBehind_82 rfl hg.1 rfl rfl (by omega) (by decide) (Nat.zero_le _) (Nat.zero_le _) (Nat.le_of_ble_eq_true rfl) ?_
        refine J_iload (pc1 := 87) rfl dX0_timeBehind_85 rfl ?_
        refine J_if_eq (pc1 := 90) (tgt := 96) (by decide) (by decide) dX0_timeBehind_87 rfl rfl (fun hc23 => ?_) (fun hc23 => ?_)
        · exact absurd hc23 (by decide)
        · refine J_iload (pc1 := 92) rfl dX0_timeBehind_90 rfl ?_
          refine J_ineg (pc1 := 93) dX0_timeBehind_92 rfl ?_
          refine J_goto (tgt := 98) dX0_timeBehind_93 rfl ?_
          refine J_iadd (pc1 := 99) dX0_timeBehind_98 rfl ?_
          refine J_istore (pc1 := 101) (L1 := [some (.ref v), some (.ref t), some (.int (iI p)), some (.int (iI b)), some (.int (iI a)), some (.int (iI z24)), some (.int (iI z26)), some (.int (iI (gaE (f 2) z26))), some (.int (iI 1)), some (.int (iI ((twF f p) + (-1)))), some (.int (iI ((moF f p) + (-z26)))), none, none]) dX0_timeBehind_99 rfl (by decide) rfl rfl ?_
          refine J_aload_n (pc1 := 102) rfl (i := 0) rfl dX0_timeBehind_101 rfl ?_
          refine J_get (pc1 := 105) (j := 0) inUX0 (ci := 0) rfl (by decide) lf_X0_9 dX0_timeBehind_102 rfl hv rfl ?_
          refine J_iconst (pc1 := 106) dX0_timeBehind_105 rfl ?_
          refine J_iload_n (pc1 := 107) rfl (i := 2) rfl dX0_timeBehind_106 rfl ?_
          refine J_isub (pc1 := 108) dX0_timeBehind_107 rfl ?_
          refine J_callVI (pc1 := 111) (As := [.int (iI (1 - p))]) gv_X0_21 yv_X2_mostOf rfl (c_X2_mostOf hg (p := 1 - p) (by omega)) dX0_timeBehind_108 rfl hg.1 rfl rfl (by omega) (by decide) (Nat.zero_le _) (Nat.zero_le _) (Nat.le_of_ble_eq_true rfl) ?_
          refine J_iload (pc1 := 113) rfl dX0_timeBehind_111 rfl ?_
          refine J_if_eq (pc1 := 116) (tgt := 121) (by decide) (by decide) dX0_timeBehind_113 rfl rfl (fun hc24 => ?_) (fun hc24 => ?_)
          · exact absurd hc24 (by decide)
          · refine J_iload (pc1 := 118) rfl dX0_timeBehind_116 rfl ?_
            refine J_goto (tgt := 124) dX0_timeBehind_118 rfl ?_
            refine J_iadd (pc1 := 125) dX0_timeBehind_124 rfl ?_
            refine J_istore (pc1 := 127) (L1 := [some (.ref v), some (.ref t), some (.int (iI p)), some (.int (iI b)), some (.int (iI a)), some (.int (iI z24)), some (.int (iI z26)), some (.int (iI (gaE (f 2) z26))), some (.int (iI 1)), some (.int (iI ((twF f p) + (-1)))), some (.int (iI ((moF f p) + (-z26)))), some (.int (iI ((moF f (1 - p)) + (gaE (f 2) z26)))), none]) dX0_timeBehind_125 rfl (by decide) rfl rfl ?_
            refine J_aload_n (pc1 := 128) rfl (i := 1) rfl dX0_timeBehind_127 rfl ?_
            refine J_iload (pc1 := 130) rfl dX0_timeBehind_128 rfl ?_
            refine J_iload (pc1 := 132) rfl dX0_timeBehind_130 rfl ?_
            refine J_iload (pc1 := 134) rfl dX0_timeBehind_132 rfl ?_
            refine J_iload_n (pc1 := 135) rfl (i := 2) rfl dX0_timeBehind_134 rfl ?_
            refine J_aload_n (pc1 := 136) rfl (i := 0) rfl dX0_timeBehind_135 rfl ?_
            refine J_get (pc1 := 139) (j := 0) inUX0 (ci := 0) rfl (by decide) lf_X0_9 dX0_timeBehind_136 rfl hv rfl ?_
            refine J_get (pc1 := 142) (j := 5) inUX2 (ci := 2) rfl (by decide) lf_X0_15 dX0_timeBehind_139 rfl hg.1 rfl ?_
            refine J_icmp_eq (pc1 := 145) (tgt := 149) (by omega) (by omega) (by omega) (by omega) dX0_timeBehind_142 rfl rfl (fun hc25 => ?_) (fun hc25 => ?_)
            · refine J_iconst (pc1 := 150) dX0_timeBehind_149 rfl ?_
              have hv0 := vd_f ok0 hp htop
              have htw : -f 0 < f 4 ∧ f 4 < f 0 := hov
              have htw2 : 0 < twF f p ∧ twF f p < 2 * f 0 := by unfold twF; split <;> omega
              have hv2 := vd_tk o2 hv0 htw2.1 hpb.1 ((show z24 = p by omega) ▸ hpb.2)
              have hv3 : vd (f 0) (f 2) top ((twF f p) + (-1)) ((moF f p) + (-z26)) ((moF f (1 - p)) + (gaE (f 2) z26)) := by
                rw [show (twF f p) + (-1) = twF f p - 1 by omega, show (moF f p) + (-z26) = moF f p - z26 by omega, show (moF f (1 - p)) + (gaE (f 2) z26) = moF f (1 - p) + gaE (f 2) z26 by omega]
                exact hv2
              refine J_callVI (pc1 := 153) (As := [.int (iI ((twF f p) + (-1))), .int (iI ((moF f p) + (-z26))), .int (iI ((moF f (1 - p)) + (gaE (f 2) z26))), .int (iI 0)]) gv_X0_58 yv_X8_timeAt rfl (c_X8_timeAt (tw := (twF f p) + (-1)) (o := (moF f p) + (-z26)) (f := (moF f (1 - p)) + (gaE (f 2) z26)) (b := 0) T hv3 (by omega)) dX0_timeBehind_150 rfl T.1 rfl rfl (by omega) (by decide) (Nat.zero_le _) (Nat.zero_le _) (Nat.le_of_ble_eq_true rfl) ?_
              rw [show tg (ixF (f 2) top w ((twF f p) + (-1)) ((moF f p) + (-z26)) ((moF f (1 - p)) + (gaE (f 2) z26)) 0) = tT (f 0) (f 3) (f 2) ((twF f p) + (-1)) ((moF f p) + (-z26)) ((moF f (1 - p)) + (gaE (f 2) z26)) 0 from tB_8 (hT _ _ _ _ hv3 (by omega))]
              have hb9 := tT_b (f 0) (f 3) (f 2) ((twF f p) + (-1)) ((moF f p) + (-z26)) ((moF f (1 - p)) + (gaE (f 2) z26)) 0
              refine J_istore (pc1 := 155) (L1 := [some (.ref v), some (.ref t), some (.int (iI p)), some (.int (iI b)), some (.int (iI a)), some (.int (iI z24)), some (.int (iI z26)), some (.int (iI (gaE (f 2) z26))), some (.int (iI 1)), some (.int (iI ((twF f p) + (-1)))), some (.int (iI ((moF f p) + (-z26)))), some (.int (iI ((moF f (1 - p)) + (gaE (f 2) z26)))), some (.int (iI (tT (f 0) (f 3) (f 2) ((twF f p) + (-1)) ((moF f p) + (-z26)) ((moF f (1 - p)) + (gaE (f 2) z26)) 0)))]) dX0_timeBehind_153 rfl (by decide) rfl rfl ?_
              refine J_iload (pc1 := 157) rfl dX0_timeBehind_155 rfl ?_
              refine J_bipush (pc1 := 159) (by decide) dX0_timeBehind_157 rfl ?_
              refine J_icmp_ge (pc1 := 162) (tgt := 167) (by omega) (by omega) (by decide) (by decide) dX0_timeBehind_159 rfl rfl (fun hc26 => ?_) (fun hc26 => ?_)
              · refine J_bipush (pc1 := 169) (by decide) dX0_timeBehind_167 rfl ?_
                exact J_iret rfl rfl dX0_timeBehind_169 (Nat.le_refl _) (Nat.le_refl _) (kI_mk (by first | (exfalso; omega) | skip; unfold tbh; rw [← hz24, ← hz26p]; unfold tmN; (first | (rw [if_pos (show z24 = p by omega), if_pos (show z24 = p by omega), if_pos (show z24 = p by omega)]) | (rw [if_neg (show ¬ z24 = p by omega), if_neg (show ¬ z24 = p by omega), if_neg (show ¬ z24 = p by omega)])); (first | rw [← bZ_t (show ¬ p = f 5 by omega)] | rw [← bZ_f (show ¬ ¬ p = f 5 by omega)]); unfold capT; first | exact (if_pos (by assumption)).symm | exact (if_neg (by assumption)).symm | exact (if_pos (by omega)).symm | exact (if_neg (by omega)).symm))
              · refine J_iload (pc1 := 164) rfl dX0_timeBehind_162 rfl ?_
                refine J_goto (tgt := 169) dX0_timeBehind_164 rfl ?_
                exact J_iret rfl rfl dX0_timeBehind_169 (Nat.le_refl _) (Nat.le_refl _) (kI_mk (by first | (exfalso; omega) | skip; unfold tbh; rw [← hz24, ← hz26p]; unfold tmN; (first | (rw [if_pos (show z24 = p by omega), if_pos (show z24 = p by omega), if_pos (show z24 = p by omega)]) | (rw [if_neg (show ¬ z24 = p by omega), if_neg (show ¬ z24 = p by omega), if_neg (show ¬ z24 = p by omega)])); (first | rw [← bZ_t (show ¬ p = f 5 by omega)] | rw [← bZ_f (show ¬ ¬ p = f 5 by omega)]); unfold capT; first | exact (if_pos (by assumption)).symm | exact (if_neg (by assumption)).symm | exact (if_pos (by omega)).symm | exact (if_neg (by omega)).symm))
            · refine J_iconst (pc1 := 146) dX0_timeBehind_145 rfl ?_
              refine J_goto (tgt := 150) dX0_timeBehind_146 rfl ?_
              have hv0 := vd_f ok0 hp htop
              have htw : -f 0 < f 4 ∧ f 4 < f 0 := hov
              have htw2 : 0 < twF f p ∧ twF f p < 2 * f 0 := by unfold twF; split <;> omega
              have hv2 := vd_tk o2 hv0 htw2.1 hpb.1 ((show z24 = p by omega) ▸ hpb.2)
              have hv3 : vd (f 0) (f 2) top ((twF f p) + (-1)) ((moF f p) + (-z26)) ((moF f (1 - p)) + (gaE (f 2) z26)) := by
                rw [show (twF f p) + (-1) = twF f p - 1 by omega, show (moF f p) + (-z26) = moF f p - z26 by omega, show (moF f (1 - p)) + (gaE (f 2) z26) = moF f (1 - p) + gaE (f 2) z26 by omega]
                exact hv2
              refine J_callVI (pc1 := 153) (As := [.int (iI ((twF f p) + (-1))), .int (iI ((moF f p) + (-z26))), .int (iI ((moF f (1 - p)) + (gaE (f 2) z26))), .int (iI 1)]) gv_X0_58 yv_X8_timeAt rfl (c_X8_timeAt (tw := (twF f p) + (-1)) (o := (moF f p) + (-z26)) (f := (moF f (1 - p)) + (gaE (f 2) z26)) (b := 1) T hv3 (by omega)) dX0_timeBehind_150 rfl T.1 rfl rfl (by omega) (by decide) (Nat.zero_le _) (Nat.zero_le _) (Nat.le_of_ble_eq_true rfl) ?_
              rw [show tg (ixF (f 2) top w ((twF f p) + (-1)) ((moF f p) + (-z26)) ((moF f (1 - p)) + (gaE (f 2) z26)) 1) = tT (f 0) (f 3) (f 2) ((twF f p) + (-1)) ((moF f p) + (-z26)) ((moF f (1 - p)) + (gaE (f 2) z26)) 1 from tB_8 (hT _ _ _ _ hv3 (by omega))]
              have hb9 := tT_b (f 0) (f 3) (f 2) ((twF f p) + (-1)) ((moF f p) + (-z26)) ((moF f (1 - p)) + (gaE (f 2) z26)) 1
              refine J_istore (pc1 := 155) (L1 := [some (.ref v), some (.ref t), some (.int (iI p)), some (.int (iI b)), some (.int (iI a)), some (.int (iI z24)), some (.int (iI z26)), some (.int (iI (gaE (f 2) z26))), some (.int (iI 1)), some (.int (iI ((twF f p) + (-1)))), some (.int (iI ((moF f p) + (-z26)))), some (.int (iI ((moF f (1 - p)) + (gaE (f 2) z26)))), some (.int (iI (tT (f 0) (f 3) (f 2) ((twF f p) + (-1)) ((moF f p) + (-z26)) ((moF f (1 - p)) + (gaE (f 2) z26)) 1)))]) dX0_timeBehind_153 rfl (by decide) rfl rfl ?_
              refine J_iload (pc1 := 157) rfl dX0_timeBehind_155 rfl ?_
              refine J_bipush (pc1 := 159) (by decide) dX0_timeBehind_157 rfl ?_
              refine J_icmp_ge (pc1 := 162) (tgt := 167) (by omega) (by omega) (by decide) (by decide) dX0_timeBehind_159 rfl rfl (fun hc27 => ?_) (fun hc27 => ?_)
              · refine J_bipush (pc1 := 169) (by decide) dX0_timeBehind_167 rfl ?_
                exact J_iret rfl rfl dX0_timeBehind_169 (Nat.le_refl _) (Nat.le_refl _) (kI_mk (by first | (exfalso; omega) | skip; unfold tbh; rw [← hz24, ← hz26p]; unfold tmN; (first | (rw [if_pos (show z24 = p by omega), if_pos (show z24 = p by omega), if_pos (show z24 = p by omega)]) | (rw [if_neg (show ¬ z24 = p by omega), if_neg (show ¬ z24 = p by omega), if_neg (show ¬ z24 = p by omega)])); (first | rw [← bZ_t (show ¬ p = f 5 by omega)] | rw [← bZ_f (show ¬ ¬ p = f 5 by omega)]); unfold capT; first | exact (if_pos (by assumption)).symm | exact (if_neg (by assumption)).symm | exact (if_pos (by omega)).symm | exact (if_neg (by omega)).symm))
              · refine J_iload (pc1 := 164) rfl dX0_timeBehind_162 rfl ?_
                refine J_goto (tgt := 169) dX0_timeBehind_164 rfl ?_
                exact J_iret rfl rfl dX0_timeBehind_169 (Nat.le_refl _) (Nat.le_refl _) (kI_mk (by first | (exfalso; omega) | skip; unfold tbh; rw [← hz24, ← hz26p]; unfold tmN; (first | (rw [if_pos (show z24 = p by omega), if_pos (show z24 = p by omega), if_pos (show z24 = p by omega)]) | (rw [if_neg (show ¬ z24 = p by omega), if_neg (show ¬ z24 = p by omega), if_neg (show ¬ z24 = p by omega)])); (first | rw [← bZ_t (show ¬ p = f 5 by omega)] | rw [← bZ_f (show ¬ ¬ p = f 5 by omega)]); unfold capT; first | exact (if_pos (by assumption)).symm | exact (if_neg (by assumption)).symm | exact (if_pos (by omega)).symm | exact (if_neg (by omega)).symm))
set_option maxHeartbeats 1000000 in
set_option maxRecDepth 20000 in
theorem c_X0_longestOwn {S : pS} {v g zz oo t ow fo tm w n : Nat} {f tg : Int → Int} {top : Int} (hv : S v = some (oO 0 [.ref g])) (hg : IsG S g zz oo f) (ok : okF f) (T : TbS S t (f 0) (f 3) (f 2) top ow fo tm w n tg) (hT : aB (f 0) (f 3) (f 2) top w 8 tg) (htop : top = topF f (moF f 0 + moF f 1)) (hov : -f 0 < f 4 ∧ f 4 < f 0) {b : Int} (hb : 0 ≤ b ∧ b ≤ moF f (f 5)) : Ct yX0_longestOwn cX0_longestOwn 6 (Option.some FieldType.int) 4 0 0 [.ref v, .ref t, .int (iI b)] S (kI (loF f b) S) := by
  have ok0 := ok
  have q3 := moF_b (p := f 5) ok
  have q4 := moF_b (p := 1 - f 5) ok
  obtain ⟨o0, o1, o2, o3, o4, o5, o7, o9, o10, o12, o13, -⟩ := ok
  have nm1 : ((nmF f (f 5) : Nat) : Int) = moF f (f 5) + 1 := by unfold nmF; omega
  have nm2 : ((nmF f (1 - f 5) : Nat) : Int) = moF f (1 - f 5) + 1 := by unfold nmF; omega
  refine Ct.ofJ (by decide +kernel) (Nat.le_of_ble_eq_true rfl) ?_
  refine J_L (L1 := [some (.ref v), some (.ref t), some (.int (iI b)), none, none, none]) rfl ?_
  have LP : ∀ (n9 i : Nat), i ≤ nmF f (1 - f 5) → nmF f (1 - f 5) - i < n9 → Jd yX0_longestOwn cX0_longestOwn 6 (Option.some FieldType.int) 4 0 0 (kI (loF f b) S) 0 0 S 23 [some (.ref v), some (.ref t), some (.int (iI b)), some (.int (iI (mxU (fun a => tbh f (f 5) b a) 0 i))), some (.int (iI (moF f (1 - f 5)))), some (.int (iI (i : Int)))] [] := by
    intro n9
    induction n9 with
    | zero => intro i i1 i2; omega
    | succ n9 ih =>
      intro i i1 i2
      have hbd := mxU_0 (h := (fun a => tbh f (f 5) b a)) (i := 0) ⟨by decide, by decide⟩ (fun a => tbh_b f _ b a) i
      have htb := tbh_b f (f 5) b (i : Int)
      refine J_iload (pc1 := 25) rfl dX0_longestOwn_23 rfl ?_
      refine J_iload (pc1 := 27) rfl dX0_longestOwn_25 rfl ?_
      refine J_icmp_gt (pc1 := 30) (tgt := 56) (by omega) (by omega) (by omega) (by omega) dX0_longestOwn_27 rfl rfl (fun hc1 => ?_) (fun hc1 => ?_)
      · refine J_iload_n (pc1 := 57) rfl (i := 3) rfl dX0_longestOwn_56 rfl ?_
        exact J_iret rfl rfl dX0_longestOwn_57 (Nat.le_refl _) (Nat.le_refl _) (kI_mk (by unfold loF; rw [show nmF f (1 - f 5) = i by omega]))
      · refine J_iload_n (pc1 := 31) rfl (i := 3) rfl dX0_longestOwn_30 rfl ?_
        refine J_aload_n (pc1 := 32) rfl (i := 0) rfl dX0_longestOwn_31 rfl ?_
        refine J_aload_n (pc1 := 33) rfl (i := 1) rfl dX0_longestOwn_32 rfl ?_
        refine J_aload_n (pc1 := 34) rfl (i := 0) rfl dX0_longestOwn_33 rfl ?_
        refine J_get (pc1 := 37) (j := 0) inUX0 (ci := 0) rfl (by decide) lf_X0_9 dX0_longestOwn_34 rfl hv rfl ?_
        refine J_get (pc1 := 40) (j := 5) inUX2 (ci := 2) rfl (by decide) lf_X0_15 dX0_longestOwn_37 rfl hg.1 rfl ?_
        refine J_iload_n (pc1 := 41) rfl (i := 2) rfl dX0_longestOwn_40 rfl ?_
        refine J_iload (pc1 := 43) rfl dX0_longestOwn_41 rfl ?_
        refine J_callVI (pc1 := 46) (As := [.ref t, .int (iI (f 5)), .int (iI b), .int (iI (i : Int))]) gv_X0_36 yv_X0_timeBehind rfl (c_X0_timeBehind hv hg ok0 T hT htop hov (p := f 5) (b := b) (a := (i : Int)) (by omega) (by omega) (by omega)) dX0_longestOwn_43 rfl hv rfl rfl (by omega) (by decide) (Nat.zero_le _) (Nat.zero_le _) (Nat.le_of_ble_eq_true rfl) ?_
        refine J_max (pc1 := 49) (by omega) (by omega) (by omega) (by omega) lm_X0_40 dX0_longestOwn_46 rfl (by omega) (Nat.le_of_ble_eq_true rfl) (by omega) (by omega) ?_
        refine J_istore_n (pc1 := 50) (L1 := [some (.ref v), some (.ref t), some (.int (iI b)), some (.int (iI (mx (mxU (fun a => tbh f (f 5) b a) 0 i) (tbh f (f 5) b (i : Int))))), some (.int (iI (moF f (1 - f 5)))), some (.int (iI (i : Int)))]) rfl (i := 3) dX0_longestOwn_49 rfl (by decide) rfl rfl ?_
        refine J_iinc (pc1 := 53) (L1 := [some (.ref v), some (.ref t), some (.int (iI b)), some (.int (iI (mx (mxU (fun a => tbh f (f 5) b a) 0 i) (tbh f (f 5) b (i : Int))))), some (.int (iI (moF f (1 - f 5)))), some (.int (iI ((i : Int) + 1)))]) dX0_longestOwn_50 rfl rfl (by decide) rfl rfl ?_
        refine J_goto (tgt := 23) dX0_longestOwn_53 rfl ?_
        rw [(show ((i : Nat) : Int) + 1 = ((i + 1 : Nat) : Int) by omega)]
        exact ih (i + 1) (by omega) (by omega)
  refine J_iconst (pc1 := 1) dX0_longestOwn_0 rfl ?_
  refine J_istore_n (pc1 := 2) (L1 := [some (.ref v), some (.ref t), some (.int (iI b)), some (.int (iI 0)), none, none]) rfl (i := 3) dX0_longestOwn_1 rfl (by decide) rfl rfl ?_
  refine J_aload_n (pc1 := 3) rfl (i := 0) rfl dX0_longestOwn_2 rfl ?_
  refine J_get (pc1 := 6) (j := 0) inUX0 (ci := 0) rfl (by decide) lf_X0_9 dX0_longestOwn_3 rfl hv rfl ?_
  refine J_iconst (pc1 := 7) dX0_longestOwn_6 rfl ?_
  refine J_aload_n (pc1 := 8) rfl (i := 0) rfl dX0_longestOwn_7 rfl ?_
  refine J_get (pc1 := 11) (j := 0) inUX0 (ci := 0) rfl (by decide) lf_X0_9 dX0_longestOwn_8 rfl hv rfl ?_
  refine J_get (pc1 := 14) (j := 5) inUX2 (ci := 2) rfl (by decide) lf_X0_15 dX0_longestOwn_11 rfl hg.1 rfl ?_
  refine J_isub (pc1 := 15) dX0_longestOwn_14 rfl ?_
  refine J_callVI (pc1 := 18) (As := [.int (iI (1 - (f 5)))]) gv_X0_21 yv_X2_mostOf rfl (c_X2_mostOf hg (p := 1 - (f 5)) (by omega)) dX0_longestOwn_15 rfl hg.1 rfl rfl (by omega) (by decide) (Nat.zero_le _) (Nat.zero_le _) (Nat.le_of_ble_eq_true rfl) ?_
  refine J_istore (pc1 := 20) (L1 := [some (.ref v), some (.ref t), some (.int (iI b)), some (.int (iI 0)), some (.int (iI (moF f (1 - (f 5))))), none]) dX0_longestOwn_18 rfl (by decide) rfl rfl ?_
  refine J_iconst (pc1 := 21) dX0_longestOwn_20 rfl ?_
  refine J_istore (pc1 := 23) (L1 := [some (.ref v), some (.ref t), some (.int (iI b)), some (.int (iI 0)), some (.int (iI (moF f (1 - (f 5))))), some (.int (iI 0))]) dX0_longestOwn_21 rfl (by decide) rfl rfl ?_
  exact LP (nmF f (1 - f 5) + 1) 0 (by omega) (by omega)
set_option maxHeartbeats 1000000 in
set_option maxRecDepth 20000 in
theorem c_X0_leastOther {S : pS} {v g zz oo t ow fo tm w n : Nat} {f tg : Int → Int} {top : Int} (hv : S v = some (oO 0 [.ref g])) (hg : IsG S g zz oo f) (ok : okF f) (T : TbS S t (f 0) (f 3) (f 2) top ow fo tm w n tg) (hT : aB (f 0) (f 3) (f 2) top w 8 tg) (htop : top = topF f (moF f 0 + moF f 1)) (hov : -f 0 < f 4 ∧ f 4 < f 0) {b : Int} (hb : 0 ≤ b ∧ b ≤ moF f (f 5)) : Ct yX0_leastOther cX0_leastOther 6 (Option.some FieldType.int) 4 0 0 [.ref v, .ref t, .int (iI b)] S (kI (leF f b) S) := by
  have ok0 := ok
  have q3 := moF_b (p := f 5) ok
  have q4 := moF_b (p := 1 - f 5) ok
  obtain ⟨o0, o1, o2, o3, o4, o5, o7, o9, o10, o12, o13, -⟩ := ok
  have nm1 : ((nmF f (f 5) : Nat) : Int) = moF f (f 5) + 1 := by unfold nmF; omega
  have nm2 : ((nmF f (1 - f 5) : Nat) : Int) = moF f (1 - f 5) + 1 := by unfold nmF; omega
  refine Ct.ofJ (by decide +kernel) (Nat.le_of_ble_eq_true rfl) ?_
  refine J_L (L1 := [some (.ref v), some (.ref t), some (.int (iI b)), none, none, none]) rfl ?_
  have LP : ∀ (n9 i : Nat), i ≤ nmF f (1 - f 5) → nmF f (1 - f 5) - i < n9 → Jd yX0_leastOther cX0_leastOther 6 (Option.some FieldType.int) 4 0 0 (kI (leF f b) S) 0 0 S 24 [some (.ref v), some (.ref t), some (.int (iI b)), some (.int (iI (mnU (fun a => tbh f (1 - f 5) b a) 9 i))), some (.int (iI (moF f (1 - f 5)))), some (.int (iI (i : Int)))] [] := by
    intro n9
    induction n9 with
    | zero => intro i i1 i2; omega
    | succ n9 ih =>
      intro i i1 i2
      have hbd := mnU_b (h := (fun a => tbh f (1 - f 5) b a)) (i := 9) ⟨by decide, by decide⟩ (fun a => tbh_b f _ b a) i
      have htb := tbh_b f (1 - f 5) b (i : Int)
      refine J_iload (pc1 := 26) rfl dX0_leastOther_24 rfl ?_
      refine J_iload (pc1 := 28) rfl dX0_leastOther_26 rfl ?_
      refine J_icmp_gt (pc1 := 31) (tgt := 59) (by omega) (by omega) (by omega) (by omega) dX0_leastOther_28 rfl rfl (fun hc1 => ?_) (fun hc1 => ?_)
      · refine J_iload_n (pc1 := 60) rfl (i := 3) rfl dX0_leastOther_59 rfl ?_
        exact J_iret rfl rfl dX0_leastOther_60 (Nat.le_refl _) (Nat.le_refl _) (kI_mk (by unfold leF; rw [show nmF f (1 - f 5) = i by omega]))
      · refine J_iload_n (pc1 := 32) rfl (i := 3) rfl dX0_leastOther_31 rfl ?_
        refine J_aload_n (pc1 := 33) rfl (i := 0) rfl dX0_leastOther_32 rfl ?_
        refine J_aload_n (pc1 := 34) rfl (i := 1) rfl dX0_leastOther_33 rfl ?_
        refine J_iconst (pc1 := 35) dX0_leastOther_34 rfl ?_
        refine J_aload_n (pc1 := 36) rfl (i := 0) rfl dX0_leastOther_35 rfl ?_
        refine J_get (pc1 := 39) (j := 0) inUX0 (ci := 0) rfl (by decide) lf_X0_9 dX0_leastOther_36 rfl hv rfl ?_
        refine J_get (pc1 := 42) (j := 5) inUX2 (ci := 2) rfl (by decide) lf_X0_15 dX0_leastOther_39 rfl hg.1 rfl ?_
        refine J_isub (pc1 := 43) dX0_leastOther_42 rfl ?_
        refine J_iload_n (pc1 := 44) rfl (i := 2) rfl dX0_leastOther_43 rfl ?_
        refine J_iload (pc1 := 46) rfl dX0_leastOther_44 rfl ?_
        refine J_callVI (pc1 := 49) (As := [.ref t, .int (iI (1 - (f 5))), .int (iI b), .int (iI (i : Int))]) gv_X0_36 yv_X0_timeBehind rfl (c_X0_timeBehind hv hg ok0 T hT htop hov (p := 1 - (f 5)) (b := b) (a := (i : Int)) (by omega) (by omega) (by omega)) dX0_leastOther_46 rfl hv rfl rfl (by omega) (by decide) (Nat.zero_le _) (Nat.zero_le _) (Nat.le_of_ble_eq_true rfl) ?_
        refine J_min (pc1 := 52) (by omega) (by omega) (by omega) (by omega) lm_X0_46 dX0_leastOther_49 rfl (by omega) (Nat.le_of_ble_eq_true rfl) (by omega) (by omega) ?_
        refine J_istore_n (pc1 := 53) (L1 := [some (.ref v), some (.ref t), some (.int (iI b)), some (.int (iI (mn (mnU (fun a => tbh f (1 - f 5) b a) 9 i) (tbh f (1 - (f 5)) b (i : Int))))), some (.int (iI (moF f (1 - f 5)))), some (.int (iI (i : Int)))]) rfl (i := 3) dX0_leastOther_52 rfl (by decide) rfl rfl ?_
        refine J_iinc (pc1 := 56) (L1 := [some (.ref v), some (.ref t), some (.int (iI b)), some (.int (iI (mn (mnU (fun a => tbh f (1 - f 5) b a) 9 i) (tbh f (1 - (f 5)) b (i : Int))))), some (.int (iI (moF f (1 - f 5)))), some (.int (iI ((i : Int) + 1)))]) dX0_leastOther_53 rfl rfl (by decide) rfl rfl ?_
        refine J_goto (tgt := 24) dX0_leastOther_56 rfl ?_
        rw [(show ((i : Nat) : Int) + 1 = ((i + 1 : Nat) : Int) by omega)]
        exact ih (i + 1) (by omega) (by omega)
  refine J_bipush (pc1 := 2) (by decide) dX0_leastOther_0 rfl ?_
  refine J_istore_n (pc1 := 3) (L1 := [some (.ref v), some (.ref t), some (.int (iI b)), some (.int (iI 9)), none, none]) rfl (i := 3) dX0_leastOther_2 rfl (by decide) rfl rfl ?_
  refine J_aload_n (pc1 := 4) rfl (i := 0) rfl dX0_leastOther_3 rfl ?_
  refine J_get (pc1 := 7) (j := 0) inUX0 (ci := 0) rfl (by decide) lf_X0_9 dX0_leastOther_4 rfl hv rfl ?_
  refine J_iconst (pc1 := 8) dX0_leastOther_7 rfl ?_
  refine J_aload_n (pc1 := 9) rfl (i := 0) rfl dX0_leastOther_8 rfl ?_
  refine J_get (pc1 := 12) (j := 0) inUX0 (ci := 0) rfl (by decide) lf_X0_9 dX0_leastOther_9 rfl hv rfl ?_
  refine J_get (pc1 := 15) (j := 5) inUX2 (ci := 2) rfl (by decide) lf_X0_15 dX0_leastOther_12 rfl hg.1 rfl ?_
  refine J_isub (pc1 := 16) dX0_leastOther_15 rfl ?_
  refine J_callVI (pc1 := 19) (As := [.int (iI (1 - (f 5)))]) gv_X0_21 yv_X2_mostOf rfl (c_X2_mostOf hg (p := 1 - (f 5)) (by omega)) dX0_leastOther_16 rfl hg.1 rfl rfl (by omega) (by decide) (Nat.zero_le _) (Nat.zero_le _) (Nat.le_of_ble_eq_true rfl) ?_
  refine J_istore (pc1 := 21) (L1 := [some (.ref v), some (.ref t), some (.int (iI b)), some (.int (iI 9)), some (.int (iI (moF f (1 - (f 5))))), none]) dX0_leastOther_19 rfl (by decide) rfl rfl ?_
  refine J_iconst (pc1 := 22) dX0_leastOther_21 rfl ?_
  refine J_istore (pc1 := 24) (L1 := [some (.ref v), some (.ref t), some (.int (iI b)), some (.int (iI 9)), some (.int (iI (moF f (1 - (f 5))))), some (.int (iI 0))]) dX0_leastOther_22 rfl (by decide) rfl rfl ?_
  exact LP (nmF f (1 - f 5) + 1) 0 (by omega) (by omega)
set_option maxHeartbeats 1000000 in
set_option maxRecDepth 20000 in
theorem c_X0_countKeeping {S : pS} {v g zz oo t ow fo tm w n : Nat} {f tg : Int → Int} {top : Int} (hv : S v = some (oO 0 [.ref g])) (hg : IsG S g zz oo f) (ok : okF f) (T : TbS S t (f 0) (f 3) (f 2) top ow fo tm w n tg) (hT : aB (f 0) (f 3) (f 2) top w 8 tg) (htop : top = topF f (moF f 0 + moF f 1)) (hov : -f 0 < f 4 ∧ f 4 < f 0) : Ct yX0_countKeeping cX0_countKeeping 5 (Option.some FieldType.int) 5 0 0 [.ref v, .ref t] S (kI (ckF f) S) := by
  have ok0 := ok
  have q3 := moF_b (p := f 5) ok
  have q4 := moF_b (p := 1 - f 5) ok
  obtain ⟨o0, o1, o2, o3, o4, o5, o7, o9, o10, o12, o13, -⟩ := ok
  have nm1 : ((nmF f (f 5) : Nat) : Int) = moF f (f 5) + 1 := by unfold nmF; omega
  have nm2 : ((nmF f (1 - f 5) : Nat) : Int) = moF f (1 - f 5) + 1 := by unfold nmF; omega
  refine Ct.ofJ (by decide +kernel) (Nat.le_of_ble_eq_true rfl) ?_
  refine J_L (L1 := [some (.ref v), some (.ref t), none, none, none]) rfl ?_
  have LP : ∀ (n9 i : Nat), i ≤ nmF f (f 5) → nmF f (f 5) - i < n9 → Jd yX0_countKeeping cX0_countKeeping 5 (Option.some FieldType.int) 5 0 0 (kI (ckF f) S) 0 0 S 20 [some (.ref v), some (.ref t), some (.int (iI (cnU (loF f) i))), some (.int (iI (moF f (f 5)))), some (.int (iI (i : Int)))] [] := by
    intro n9
    induction n9 with
    | zero => intro i i1 i2; omega
    | succ n9 ih =>
      intro i i1 i2
      have hbd := loF_b f (i : Int)
      refine J_iload (pc1 := 22) rfl dX0_countKeeping_20 rfl ?_
      refine J_iload_n (pc1 := 23) rfl (i := 3) rfl dX0_countKeeping_22 rfl ?_
      refine J_icmp_gt (pc1 := 26) (tgt := 47) (by omega) (by omega) (by omega) (by omega) dX0_countKeeping_23 rfl rfl (fun hc1 => ?_) (fun hc1 => ?_)
      · refine J_iload_n (pc1 := 48) rfl (i := 2) rfl dX0_countKeeping_47 rfl ?_
        exact J_iret rfl rfl dX0_countKeeping_48 (Nat.le_refl _) (Nat.le_refl _) (kI_mk (by unfold ckF; rw [show nmF f (f 5) = i by omega]))
      · refine J_aload_n (pc1 := 27) rfl (i := 0) rfl dX0_countKeeping_26 rfl ?_
        refine J_aload_n (pc1 := 28) rfl (i := 1) rfl dX0_countKeeping_27 rfl ?_
        refine J_iload (pc1 := 30) rfl dX0_countKeeping_28 rfl ?_
        refine J_callVI (pc1 := 33) (As := [.ref t, .int (iI (i : Int))]) gv_X0_25 yv_X0_longestOwn rfl (c_X0_longestOwn hv hg ok0 T hT htop hov (b := (i : Int)) (by omega)) dX0_countKeeping_30 rfl hv rfl rfl (by omega) (by decide) (Nat.zero_le _) (Nat.zero_le _) (Nat.le_of_ble_eq_true rfl) ?_
        refine J_bipush (pc1 := 35) (by decide) dX0_countKeeping_33 rfl ?_
        refine J_icmp_ge (pc1 := 38) (tgt := 41) (by omega) (by omega) (by decide) (by decide) dX0_countKeeping_35 rfl rfl (fun hc2 => ?_) (fun hc2 => ?_)
        · refine J_iinc (pc1 := 44) (L1 := [some (.ref v), some (.ref t), some (.int (iI (cnU (loF f) i))), some (.int (iI (moF f (f 5)))), some (.int (iI ((i : Int) + 1)))]) dX0_countKeeping_41 rfl rfl (by decide) rfl rfl ?_
          refine J_goto (tgt := 20) dX0_countKeeping_44 rfl ?_
          refine J_L (L1 := [some (.ref v), some (.ref t), some (.int (iI (cnU (loF f) (i + 1)))), some (.int (iI (moF f (f 5)))), some (.int (iI ((i + 1 : Nat) : Int)))]) (by rw [show cnU (loF f) (i + 1) = cnU (loF f) i + (if loF f (i : Int) < 9 then 1 else 0) from rfl]; (first | rw [if_pos (by omega)] | rw [if_neg (by omega), Int.add_zero]); rw [(show ((i : Nat) : Int) + 1 = ((i + 1 : Nat) : Int) by omega)]) ?_
          exact ih (i + 1) (by omega) (by omega)
        · refine J_iinc (pc1 := 41) (L1 := [some (.ref v), some (.ref t), some (.int (iI ((cnU (loF f) i) + 1))), some (.int (iI (moF f (f 5)))), some (.int (iI (i : Int)))]) dX0_countKeeping_38 rfl rfl (by decide) rfl rfl ?_
          refine J_iinc (pc1 := 44) (L1 := [some (.ref v), some (.ref t), some (.int (iI ((cnU (loF f) i) + 1))), some (.int (iI (moF f (f 5)))), some (.int (iI ((i : Int) + 1)))]) dX0_countKeeping_41 rfl rfl (by decide) rfl rfl ?_
          refine J_goto (tgt := 20) dX0_countKeeping_44 rfl ?_
          refine J_L (L1 := [some (.ref v), some (.ref t), some (.int (iI (cnU (loF f) (i + 1)))), some (.int (iI (moF f (f 5)))), some (.int (iI ((i + 1 : Nat) : Int)))]) (by rw [show cnU (loF f) (i + 1) = cnU (loF f) i + (if loF f (i : Int) < 9 then 1 else 0) from rfl]; (first | rw [if_pos (by omega)] | rw [if_neg (by omega), Int.add_zero]); rw [(show ((i : Nat) : Int) + 1 = ((i + 1 : Nat) : Int) by omega)]) ?_
          exact ih (i + 1) (by omega) (by omega)
  refine J_iconst (pc1 := 1) dX0_countKeeping_0 rfl ?_
  refine J_istore_n (pc1 := 2) (L1 := [some (.ref v), some (.ref t), some (.int (iI 0)), none, none]) rfl (i := 2) dX0_countKeeping_1 rfl (by decide) rfl rfl ?_
  refine J_aload_n (pc1 := 3) rfl (i := 0) rfl dX0_countKeeping_2 rfl ?_
  refine J_get (pc1 := 6) (j := 0) inUX0 (ci := 0) rfl (by decide) lf_X0_9 dX0_countKeeping_3 rfl hv rfl ?_
  refine J_aload_n (pc1 := 7) rfl (i := 0) rfl dX0_countKeeping_6 rfl ?_
  refine J_get (pc1 := 10) (j := 0) inUX0 (ci := 0) rfl (by decide) lf_X0_9 dX0_countKeeping_7 rfl hv rfl ?_
  refine J_get (pc1 := 13) (j := 5) inUX2 (ci := 2) rfl (by decide) lf_X0_15 dX0_countKeeping_10 rfl hg.1 rfl ?_
  refine J_callVI (pc1 := 16) (As := [.int (iI (f 5))]) gv_X0_21 yv_X2_mostOf rfl (c_X2_mostOf hg (p := f 5) (by omega)) dX0_countKeeping_13 rfl hg.1 rfl rfl (by omega) (by decide) (Nat.zero_le _) (Nat.zero_le _) (Nat.le_of_ble_eq_true rfl) ?_
  refine J_istore_n (pc1 := 17) (L1 := [some (.ref v), some (.ref t), some (.int (iI 0)), some (.int (iI (moF f (f 5)))), none]) rfl (i := 3) dX0_countKeeping_16 rfl (by decide) rfl rfl ?_
  refine J_iconst (pc1 := 18) dX0_countKeeping_17 rfl ?_
  refine J_istore (pc1 := 20) (L1 := [some (.ref v), some (.ref t), some (.int (iI 0)), some (.int (iI (moF f (f 5)))), some (.int (iI 0))]) dX0_countKeeping_18 rfl (by decide) rfl rfl ?_
  exact LP (nmF f (f 5) + 1) 0 (by omega) (by omega)
set_option maxHeartbeats 1000000 in
set_option maxRecDepth 20000 in
theorem c_X0_findDelay {S : pS} {v g zz oo t ow fo tm w n : Nat} {f tg : Int → Int} {top : Int} (hv : S v = some (oO 0 [.ref g])) (hg : IsG S g zz oo f) (ok : okF f) (T : TbS S t (f 0) (f 3) (f 2) top ow fo tm w n tg) (hT : aB (f 0) (f 3) (f 2) top w 8 tg) (htop : top = topF f (moF f 0 + moF f 1)) (hov : -f 0 < f 4 ∧ f 4 < f 0) : Ct yX0_findDelay cX0_findDelay 7 (Option.some FieldType.int) 5 0 0 [.ref v, .ref t] S (kI (fdF f) S) := by
  have ok0 := ok
  have q3 := moF_b (p := f 5) ok
  have q4 := moF_b (p := 1 - f 5) ok
  obtain ⟨o0, o1, o2, o3, o4, o5, o7, o9, o10, o12, o13, -⟩ := ok
  have nm1 : ((nmF f (f 5) : Nat) : Int) = moF f (f 5) + 1 := by unfold nmF; omega
  have nm2 : ((nmF f (1 - f 5) : Nat) : Int) = moF f (1 - f 5) + 1 := by unfold nmF; omega
  refine Ct.ofJ (by decide +kernel) (Nat.le_of_ble_eq_true rfl) ?_
  refine J_L (L1 := [some (.ref v), some (.ref t), none, none, none, none, none]) rfl ?_
  have LP : ∀ (n9 i : Nat), i ≤ nmF f (f 5) → nmF f (f 5) - i < n9 → Jd yX0_findDelay cX0_findDelay 7 (Option.some FieldType.int) 5 0 0 (kI (fdF f) S) 0 0 S 23 [some (.ref v), some (.ref t), some (.int (iI (ahU (leF f) (-1) i))), some (.int (iI (mxU (leF f) (-1) i))), some (.int (iI (moF f (f 5)))), some (.int (iI (i : Int))), none] [] := by
    intro n9
    induction n9 with
    | zero => intro i i1 i2; omega
    | succ n9 ih =>
      intro i i1 i2
      have hbd := leF_b f (i : Int)
      have hbm := mxU_b (h := leF f) (i := -1) ⟨by decide, by decide⟩ (leF_b f) i
      refine J_iload (pc1 := 25) rfl dX0_findDelay_23 rfl ?_
      refine J_iload (pc1 := 27) rfl dX0_findDelay_25 rfl ?_
      refine J_icmp_gt (pc1 := 30) (tgt := 57) (by omega) (by omega) (by omega) (by omega) dX0_findDelay_27 rfl rfl (fun hc1 => ?_) (fun hc1 => ?_)
      · refine J_iload_n (pc1 := 58) rfl (i := 2) rfl dX0_findDelay_57 rfl ?_
        exact J_iret rfl rfl dX0_findDelay_58 (Nat.le_refl _) (Nat.le_refl _) (kI_mk (by unfold fdF; rw [show nmF f (f 5) = i by omega]))
      · refine J_aload_n (pc1 := 31) rfl (i := 0) rfl dX0_findDelay_30 rfl ?_
        refine J_aload_n (pc1 := 32) rfl (i := 1) rfl dX0_findDelay_31 rfl ?_
        refine J_iload (pc1 := 34) rfl dX0_findDelay_32 rfl ?_
        refine J_callVI (pc1 := 37) (As := [.ref t, .int (iI (i : Int))]) gv_X0_33 yv_X0_leastOther rfl (c_X0_leastOther hv hg ok0 T hT htop hov (b := (i : Int)) (by omega)) dX0_findDelay_34 rfl hv rfl rfl (by omega) (by decide) (Nat.zero_le _) (Nat.zero_le _) (Nat.le_of_ble_eq_true rfl) ?_
        refine J_istore (pc1 := 39) (L1 := [some (.ref v), some (.ref t), some (.int (iI (ahU (leF f) (-1) i))), some (.int (iI (mxU (leF f) (-1) i))), some (.int (iI (moF f (f 5)))), some (.int (iI (i : Int))), some (.int (iI (leF f (i : Int))))]) dX0_findDelay_37 rfl (by decide) rfl rfl ?_
        refine J_iload (pc1 := 41) rfl dX0_findDelay_39 rfl ?_
        refine J_iload_n (pc1 := 42) rfl (i := 3) rfl dX0_findDelay_41 rfl ?_
        refine J_icmp_le (pc1 := 45) (tgt := 51) (by omega) (by omega) (by omega) (by omega) dX0_findDelay_42 rfl rfl (fun hc2 => ?_) (fun hc2 => ?_)
        · refine J_iinc (pc1 := 54) (L1 := [some (.ref v), some (.ref t), some (.int (iI (ahU (leF f) (-1) i))), some (.int (iI (mxU (leF f) (-1) i))), some (.int (iI (moF f (f 5)))), some (.int (iI ((i : Int) + 1))), some (.int (iI (leF f (i : Int))))]) dX0_findDelay_51 rfl rfl (by decide) rfl rfl ?_
          refine J_goto (tgt := 23) dX0_findDelay_54 rfl ?_
          refine J_sub (L1 := [some (.ref v), some (.ref t), some (.int (iI (ahU (leF f) (-1) i))), some (.int (iI (mxU (leF f) (-1) i))), some (.int (iI (moF f (f 5)))), some (.int (iI ((i : Int) + 1))), none]) ⟨rfl, rfl, rfl, rfl, rfl, rfl, trivial⟩ ?_
          refine J_L (L1 := [some (.ref v), some (.ref t), some (.int (iI (ahU (leF f) (-1) (i + 1)))), some (.int (iI (mxU (leF f) (-1) (i + 1)))), some (.int (iI (moF f (f 5)))), some (.int (iI ((i + 1 : Nat) : Int))), none]) (by rw [show ahU (leF f) (-1) (i + 1) = if mxU (leF f) (-1) i < (leF f) (i : Int) then (i : Int) else ahU (leF f) (-1) i from rfl]; rw [show mxU (leF f) (-1) (i + 1) = (if mxU (leF f) (-1) i < (leF f) (i : Int) then (leF f) (i : Int) else mxU (leF f) (-1) i) from rfl]; (first | rw [if_pos (by omega), if_pos (by omega)] | rw [if_neg (by omega), if_neg (by omega)]); rw [(show ((i : Nat) : Int) + 1 = ((i + 1 : Nat) : Int) by omega)]) ?_
          exact ih (i + 1) (by omega) (by omega)
        · refine J_iload (pc1 := 47) rfl dX0_findDelay_45 rfl ?_
          refine J_istore_n (pc1 := 48) (L1 := [some (.ref v), some (.ref t), some (.int (iI (i : Int))), some (.int (iI (mxU (leF f) (-1) i))), some (.int (iI (moF f (f 5)))), some (.int (iI (i : Int))), some (.int (iI (leF f (i : Int))))]) rfl (i := 2) dX0_findDelay_47 rfl (by decide) rfl rfl ?_
          refine J_iload (pc1 := 50) rfl dX0_findDelay_48 rfl ?_
          refine J_istore_n (pc1 := 51) (L1 := [some (.ref v), some (.ref t), some (.int (iI (i : Int))), some (.int (iI (leF f (i : Int)))), some (.int (iI (moF f (f 5)))), some (.int (iI (i : Int))), some (.int (iI (leF f (i : Int))))]) rfl (i := 3) dX0_findDelay_50 rfl (by decide) rfl rfl ?_
          refine J_iinc (pc1 := 54) (L1 := [some (.ref v), some (.ref t), some (.int (iI (i : Int))), some (.int (iI (leF f (i : Int)))), some (.int (iI (moF f (f 5)))), some (.int (iI ((i : Int) + 1))), some (.int (iI (leF f (i : Int))))]) dX0_findDelay_51 rfl rfl (by decide) rfl rfl ?_
          refine J_goto (tgt := 23) dX0_findDelay_54 rfl ?_
          refine J_sub (L1 := [some (.ref v), some (.ref t), some (.int (iI (i : Int))), some (.int (iI (leF f (i : Int)))), some (.int (iI (moF f (f 5)))), some (.int (iI ((i : Int) + 1))), none]) ⟨rfl, rfl, rfl, rfl, rfl, rfl, trivial⟩ ?_
          refine J_L (L1 := [some (.ref v), some (.ref t), some (.int (iI (ahU (leF f) (-1) (i + 1)))), some (.int (iI (mxU (leF f) (-1) (i + 1)))), some (.int (iI (moF f (f 5)))), some (.int (iI ((i + 1 : Nat) : Int))), none]) (by rw [show ahU (leF f) (-1) (i + 1) = if mxU (leF f) (-1) i < (leF f) (i : Int) then (i : Int) else ahU (leF f) (-1) i from rfl]; rw [show mxU (leF f) (-1) (i + 1) = (if mxU (leF f) (-1) i < (leF f) (i : Int) then (leF f) (i : Int) else mxU (leF f) (-1) i) from rfl]; (first | rw [if_pos (by omega), if_pos (by omega)] | rw [if_neg (by omega), if_neg (by omega)]); rw [(show ((i : Nat) : Int) + 1 = ((i + 1 : Nat) : Int) by omega)]) ?_
          exact ih (i + 1) (by omega) (by omega)
  refine J_iconst (pc1 := 1) dX0_findDelay_0 rfl ?_
  refine J_istore_n (pc1 := 2) (L1 := [some (.ref v), some (.ref t), some (.int (iI 0)), none, none, none, none]) rfl (i := 2) dX0_findDelay_1 rfl (by decide) rfl rfl ?_
  refine J_iconst (pc1 := 3) dX0_findDelay_2 rfl ?_
  refine J_istore_n (pc1 := 4) (L1 := [some (.ref v), some (.ref t), some (.int (iI 0)), some (.int (iI (-1))), none, none, none]) rfl (i := 3) dX0_findDelay_3 rfl (by decide) rfl rfl ?_
  refine J_aload_n (pc1 := 5) rfl (i := 0) rfl dX0_findDelay_4 rfl ?_
  refine J_get (pc1 := 8) (j := 0) inUX0 (ci := 0) rfl (by decide) lf_X0_9 dX0_findDelay_5 rfl hv rfl ?_
  refine J_aload_n (pc1 := 9) rfl (i := 0) rfl dX0_findDelay_8 rfl ?_
  refine J_get (pc1 := 12) (j := 0) inUX0 (ci := 0) rfl (by decide) lf_X0_9 dX0_findDelay_9 rfl hv rfl ?_
  refine J_get (pc1 := 15) (j := 5) inUX2 (ci := 2) rfl (by decide) lf_X0_15 dX0_findDelay_12 rfl hg.1 rfl ?_
  refine J_callVI (pc1 := 18) (As := [.int (iI (f 5))]) gv_X0_21 yv_X2_mostOf rfl (c_X2_mostOf hg (p := f 5) (by omega)) dX0_findDelay_15 rfl hg.1 rfl rfl (by omega) (by decide) (Nat.zero_le _) (Nat.zero_le _) (Nat.le_of_ble_eq_true rfl) ?_
  refine J_istore (pc1 := 20) (L1 := [some (.ref v), some (.ref t), some (.int (iI 0)), some (.int (iI (-1))), some (.int (iI (moF f (f 5)))), none, none]) dX0_findDelay_18 rfl (by decide) rfl rfl ?_
  refine J_iconst (pc1 := 21) dX0_findDelay_20 rfl ?_
  refine J_istore (pc1 := 23) (L1 := [some (.ref v), some (.ref t), some (.int (iI 0)), some (.int (iI (-1))), some (.int (iI (moF f (f 5)))), some (.int (iI 0)), none]) dX0_findDelay_21 rfl (by decide) rfl rfl ?_
  exact LP (nmF f (f 5) + 1) 0 (by omega) (by omega)
set_option maxHeartbeats 1000000 in
set_option maxRecDepth 20000 in
theorem c_X0_findBid {S : pS} {v g zz oo t ow fo tm w n : Nat} {f tg : Int → Int} {top : Int} (hv : S v = some (oO 0 [.ref g])) (hg : IsG S g zz oo f) (ok : okF f) (T : TbS S t (f 0) (f 3) (f 2) top ow fo tm w n tg) (hT : aB (f 0) (f 3) (f 2) top w 8 tg) (htop : top = topF f (moF f 0 + moF f 1)) (hov : -f 0 < f 4 ∧ f 4 < f 0) : Ct yX0_findBid cX0_findBid 7 (Option.some FieldType.int) 6 0 0 [.ref v, .ref t] S (kI (fbF f) S) := by
  have ok0 := ok
  have q3 := moF_b (p := f 5) ok
  have q4 := moF_b (p := 1 - f 5) ok
  obtain ⟨o0, o1, o2, o3, o4, o5, o7, o9, o10, o12, o13, -⟩ := ok
  have nm1 : ((nmF f (f 5) : Nat) : Int) = moF f (f 5) + 1 := by unfold nmF; omega
  have nm2 : ((nmF f (1 - f 5) : Nat) : Int) = moF f (1 - f 5) + 1 := by unfold nmF; omega
  refine Ct.ofJ (by decide +kernel) (Nat.le_of_ble_eq_true rfl) ?_
  refine J_L (L1 := [some (.ref v), some (.ref t), none, none, none, none, none]) rfl ?_
  have LP : ∀ (n9 i : Nat), i ≤ nmF f (f 5) → nmF f (f 5) - i < n9 → Jd yX0_findBid cX0_findBid 7 (Option.some FieldType.int) 6 0 0 (kI (fbF f) S) 0 0 S 24 [some (.ref v), some (.ref t), some (.int (iI (agU (loF f) 9 i))), some (.int (iI (mnU (loF f) 9 i))), some (.int (iI (moF f (f 5)))), some (.int (iI (i : Int))), none] [] := by
    intro n9
    induction n9 with
    | zero => intro i i1 i2; omega
    | succ n9 ih =>
      intro i i1 i2
      have hbd := loF_b f (i : Int)
      have hbm := mnU_b (h := loF f) (i := 9) ⟨by decide, by decide⟩ (loF_b f) i
      refine J_iload (pc1 := 26) rfl dX0_findBid_24 rfl ?_
      refine J_iload (pc1 := 28) rfl dX0_findBid_26 rfl ?_
      refine J_icmp_gt (pc1 := 31) (tgt := 58) (by omega) (by omega) (by omega) (by omega) dX0_findBid_28 rfl rfl (fun hc1 => ?_) (fun hc1 => ?_)
      · refine J_iload_n (pc1 := 59) rfl (i := 3) rfl dX0_findBid_58 rfl ?_
        refine J_bipush (pc1 := 61) (by decide) dX0_findBid_59 rfl ?_
        refine J_icmp_ge (pc1 := 64) (tgt := 68) (by omega) (by omega) (by decide) (by decide) dX0_findBid_61 rfl rfl (fun hc2 => ?_) (fun hc2 => ?_)
        · refine J_aload_n (pc1 := 69) rfl (i := 0) rfl dX0_findBid_68 rfl ?_
          refine J_aload_n (pc1 := 70) rfl (i := 1) rfl dX0_findBid_69 rfl ?_
          refine J_callVI (pc1 := 73) (As := [.ref t]) gv_X0_29 yv_X0_findDelay rfl (c_X0_findDelay hv hg ok0 T hT htop hov) dX0_findBid_70 rfl hv rfl rfl (by omega) (by decide) (Nat.zero_le _) (Nat.zero_le _) (Nat.le_of_ble_eq_true rfl) ?_
          exact J_iret rfl rfl dX0_findBid_73 (Nat.le_refl _) (Nat.le_refl _) (kI_mk (by unfold fbF; rw [show nmF f (f 5) = i by omega]; first | rw [if_pos (by omega)] | rw [if_neg (by omega)]))
        · refine J_iload_n (pc1 := 65) rfl (i := 2) rfl dX0_findBid_64 rfl ?_
          refine J_goto (tgt := 73) dX0_findBid_65 rfl ?_
          exact J_iret rfl rfl dX0_findBid_73 (Nat.le_refl _) (Nat.le_refl _) (kI_mk (by unfold fbF; rw [show nmF f (f 5) = i by omega]; first | rw [if_pos (by omega)] | rw [if_neg (by omega)]))
      · refine J_aload_n (pc1 := 32) rfl (i := 0) rfl dX0_findBid_31 rfl ?_
        refine J_aload_n (pc1 := 33) rfl (i := 1) rfl dX0_findBid_32 rfl ?_
        refine J_iload (pc1 := 35) rfl dX0_findBid_33 rfl ?_
        refine J_callVI (pc1 := 38) (As := [.ref t, .int (iI (i : Int))]) gv_X0_25 yv_X0_longestOwn rfl (c_X0_longestOwn hv hg ok0 T hT htop hov (b := (i : Int)) (by omega)) dX0_findBid_35 rfl hv rfl rfl (by omega) (by decide) (Nat.zero_le _) (Nat.zero_le _) (Nat.le_of_ble_eq_true rfl) ?_
        refine J_istore (pc1 := 40) (L1 := [some (.ref v), some (.ref t), some (.int (iI (agU (loF f) 9 i))), some (.int (iI (mnU (loF f) 9 i))), some (.int (iI (moF f (f 5)))), some (.int (iI (i : Int))), some (.int (iI (loF f (i : Int))))]) dX0_findBid_38 rfl (by decide) rfl rfl ?_
        refine J_iload (pc1 := 42) rfl dX0_findBid_40 rfl ?_
        refine J_iload_n (pc1 := 43) rfl (i := 3) rfl dX0_findBid_42 rfl ?_
        refine J_icmp_ge (pc1 := 46) (tgt := 52) (by omega) (by omega) (by omega) (by omega) dX0_findBid_43 rfl rfl (fun hc3 => ?_) (fun hc3 => ?_)
        · refine J_iinc (pc1 := 55) (L1 := [some (.ref v), some (.ref t), some (.int (iI (agU (loF f) 9 i))), some (.int (iI (mnU (loF f) 9 i))), some (.int (iI (moF f (f 5)))), some (.int (iI ((i : Int) + 1))), some (.int (iI (loF f (i : Int))))]) dX0_findBid_52 rfl rfl (by decide) rfl rfl ?_
          refine J_goto (tgt := 24) dX0_findBid_55 rfl ?_
          refine J_sub (L1 := [some (.ref v), some (.ref t), some (.int (iI (agU (loF f) 9 i))), some (.int (iI (mnU (loF f) 9 i))), some (.int (iI (moF f (f 5)))), some (.int (iI ((i : Int) + 1))), none]) ⟨rfl, rfl, rfl, rfl, rfl, rfl, trivial⟩ ?_
          refine J_L (L1 := [some (.ref v), some (.ref t), some (.int (iI (agU (loF f) 9 (i + 1)))), some (.int (iI (mnU (loF f) 9 (i + 1)))), some (.int (iI (moF f (f 5)))), some (.int (iI ((i + 1 : Nat) : Int))), none]) (by rw [show agU (loF f) 9 (i + 1) = if (loF f) (i : Int) < mnU (loF f) 9 i then (i : Int) else agU (loF f) 9 i from rfl]; rw [show mnU (loF f) 9 (i + 1) = (if (loF f) (i : Int) < mnU (loF f) 9 i then (loF f) (i : Int) else mnU (loF f) 9 i) from rfl]; (first | rw [if_pos (by omega), if_pos (by omega)] | rw [if_neg (by omega), if_neg (by omega)]); rw [(show ((i : Nat) : Int) + 1 = ((i + 1 : Nat) : Int) by omega)]) ?_
          exact ih (i + 1) (by omega) (by omega)
        · refine J_iload (pc1 := 48) rfl dX0_findBid_46 rfl ?_
          refine J_istore_n (pc1 := 49) (L1 := [some (.ref v), some (.ref t), some (.int (iI (i : Int))), some (.int (iI (mnU (loF f) 9 i))), some (.int (iI (moF f (f 5)))), some (.int (iI (i : Int))), some (.int (iI (loF f (i : Int))))]) rfl (i := 2) dX0_findBid_48 rfl (by decide) rfl rfl ?_
          refine J_iload (pc1 := 51) rfl dX0_findBid_49 rfl ?_
          refine J_istore_n (pc1 := 52) (L1 := [some (.ref v), some (.ref t), some (.int (iI (i : Int))), some (.int (iI (loF f (i : Int)))), some (.int (iI (moF f (f 5)))), some (.int (iI (i : Int))), some (.int (iI (loF f (i : Int))))]) rfl (i := 3) dX0_findBid_51 rfl (by decide) rfl rfl ?_
          refine J_iinc (pc1 := 55) (L1 := [some (.ref v), some (.ref t), some (.int (iI (i : Int))), some (.int (iI (loF f (i : Int)))), some (.int (iI (moF f (f 5)))), some (.int (iI ((i : Int) + 1))), some (.int (iI (loF f (i : Int))))]) dX0_findBid_52 rfl rfl (by decide) rfl rfl ?_
          refine J_goto (tgt := 24) dX0_findBid_55 rfl ?_
          refine J_sub (L1 := [some (.ref v), some (.ref t), some (.int (iI (i : Int))), some (.int (iI (loF f (i : Int)))), some (.int (iI (moF f (f 5)))), some (.int (iI ((i : Int) + 1))), none]) ⟨rfl, rfl, rfl, rfl, rfl, rfl, trivial⟩ ?_
          refine J_L (L1 := [some (.ref v), some (.ref t), some (.int (iI (agU (loF f) 9 (i + 1)))), some (.int (iI (mnU (loF f) 9 (i + 1)))), some (.int (iI (moF f (f 5)))), some (.int (iI ((i + 1 : Nat) : Int))), none]) (by rw [show agU (loF f) 9 (i + 1) = if (loF f) (i : Int) < mnU (loF f) 9 i then (i : Int) else agU (loF f) 9 i from rfl]; rw [show mnU (loF f) 9 (i + 1) = (if (loF f) (i : Int) < mnU (loF f) 9 i then (loF f) (i : Int) else mnU (loF f) 9 i) from rfl]; (first | rw [if_pos (by omega), if_pos (by omega)] | rw [if_neg (by omega), if_neg (by omega)]); rw [(show ((i : Nat) : Int) + 1 = ((i + 1 : Nat) : Int) by omega)]) ?_
          exact ih (i + 1) (by omega) (by omega)
  refine J_iconst (pc1 := 1) dX0_findBid_0 rfl ?_
  refine J_istore_n (pc1 := 2) (L1 := [some (.ref v), some (.ref t), some (.int (iI 0)), none, none, none, none]) rfl (i := 2) dX0_findBid_1 rfl (by decide) rfl rfl ?_
  refine J_bipush (pc1 := 4) (by decide) dX0_findBid_2 rfl ?_
  refine J_istore_n (pc1 := 5) (L1 := [some (.ref v), some (.ref t), some (.int (iI 0)), some (.int (iI 9)), none, none, none]) rfl (i := 3) dX0_findBid_4 rfl (by decide) rfl rfl ?_
  refine J_aload_n (pc1 := 6) rfl (i := 0) rfl dX0_findBid_5 rfl ?_
  refine J_get (pc1 := 9) (j := 0) inUX0 (ci := 0) rfl (by decide) lf_X0_9 dX0_findBid_6 rfl hv rfl ?_
  refine J_aload_n (pc1 := 10) rfl (i := 0) rfl dX0_findBid_9 rfl ?_
  refine J_get (pc1 := 13) (j := 0) inUX0 (ci := 0) rfl (by decide) lf_X0_9 dX0_findBid_10 rfl hv rfl ?_
  refine J_get (pc1 := 16) (j := 5) inUX2 (ci := 2) rfl (by decide) lf_X0_15 dX0_findBid_13 rfl hg.1 rfl ?_
  refine J_callVI (pc1 := 19) (As := [.int (iI (f 5))]) gv_X0_21 yv_X2_mostOf rfl (c_X2_mostOf hg (p := f 5) (by omega)) dX0_findBid_16 rfl hg.1 rfl rfl (by omega) (by decide) (Nat.zero_le _) (Nat.zero_le _) (Nat.le_of_ble_eq_true rfl) ?_
  refine J_istore (pc1 := 21) (L1 := [some (.ref v), some (.ref t), some (.int (iI 0)), some (.int (iI 9)), some (.int (iI (moF f (f 5)))), none, none]) dX0_findBid_19 rfl (by decide) rfl rfl ?_
  refine J_iconst (pc1 := 22) dX0_findBid_21 rfl ?_
  refine J_istore (pc1 := 24) (L1 := [some (.ref v), some (.ref t), some (.int (iI 0)), some (.int (iI 9)), some (.int (iI (moF f (f 5)))), some (.int (iI 0)), none]) dX0_findBid_22 rfl (by decide) rfl rfl ?_
  exact LP (nmF f (f 5) + 1) 0 (by omega) (by omega)
set_option maxHeartbeats 1000000 in
set_option maxRecDepth 20000 in
theorem c_X0_findAnswer {S : pS} {v g zz oo t ow fo tm w n : Nat} {f tg : Int → Int} {top : Int} (hv : S v = some (oO 0 [.ref g])) (hg : IsG S g zz oo f) (ok : okF f) (T : TbS S t (f 0) (f 3) (f 2) top ow fo tm w n tg) (hT : aB (f 0) (f 3) (f 2) top w 8 tg) (htop : top = topF f (moF f 0 + moF f 1)) (hov : -f 0 < f 4 ∧ f 4 < f 0) {b : Int} (hb : 0 ≤ b ∧ b ≤ moF f (f 5)) : Ct yX0_findAnswer cX0_findAnswer 11 (Option.some FieldType.int) 5 0 0 [.ref v, .ref t, .int (iI b)] S (kI (faF f b) S) := by
  have ok0 := ok
  have q3 := moF_b (p := f 5) ok
  have q4 := moF_b (p := 1 - f 5) ok
  obtain ⟨o0, o1, o2, o3, o4, o5, o7, o9, o10, o12, o13, -⟩ := ok
  have nm1 : ((nmF f (f 5) : Nat) : Int) = moF f (f 5) + 1 := by unfold nmF; omega
  have nm2 : ((nmF f (1 - f 5) : Nat) : Int) = moF f (1 - f 5) + 1 := by unfold nmF; omega
  refine Ct.ofJ (by decide +kernel) (Nat.le_of_ble_eq_true rfl) ?_
  refine J_L (L1 := [some (.ref v), some (.ref t), some (.int (iI b)), none, none, none, none, none, none, none, none]) rfl ?_
  have LP : ∀ (n9 i : Nat), i ≤ nmF f (1 - f 5) → nmF f (1 - f 5) - i < n9 → Jd yX0_findAnswer cX0_findAnswer 11 (Option.some FieldType.int) 5 0 0 (kI (faF f b) S) 0 0 S 33 [some (.ref v), some (.ref t), some (.int (iI b)), some (.int (iI (agU (fun a => tbh f (1 - f 5) b a) 9 i))), some (.int (iI (mnU (fun a => tbh f (1 - f 5) b a) 9 i))), some (.int (iI (ahU (fun a => tbh f (f 5) b a) (-1) i))), some (.int (iI (mxU (fun a => tbh f (f 5) b a) (-1) i))), some (.int (iI (moF f (1 - f 5)))), some (.int (iI (i : Int))), none, none] [] := by
    intro n9
    induction n9 with
    | zero => intro i i1 i2; omega
    | succ n9 ih =>
      intro i i1 i2
      have hb1 := tbh_b f (1 - f 5) b (i : Int)
      have hb2 := tbh_b f (f 5) b (i : Int)
      have hbm := mnU_b (h := (fun a => tbh f (1 - f 5) b a)) (i := 9) ⟨by decide, by decide⟩ (fun a => tbh_b f _ b a) i
      have hbx := mxU_b (h := (fun a => tbh f (f 5) b a)) (i := -1) ⟨by decide, by decide⟩ (fun a => tbh_b f _ b a) i
      refine J_iload (pc1 := 35) rfl dX0_findAnswer_33 rfl ?_
      refine J_iload (pc1 := 37) rfl dX0_findAnswer_35 rfl ?_
      refine J_icmp_gt (pc1 := 40) (tgt := 111) (by omega) (by omega) (by omega) (by omega) dX0_findAnswer_37 rfl rfl (fun hc1 => ?_) (fun hc1 => ?_)
      · refine J_iload (pc1 := 113) rfl dX0_findAnswer_111 rfl ?_
        refine J_bipush (pc1 := 115) (by decide) dX0_findAnswer_113 rfl ?_
        refine J_icmp_ge (pc1 := 118) (tgt := 122) (by omega) (by omega) (by decide) (by decide) dX0_findAnswer_115 rfl rfl (fun hc2 => ?_) (fun hc2 => ?_)
        · refine J_iload (pc1 := 124) rfl dX0_findAnswer_122 rfl ?_
          exact J_iret rfl rfl dX0_findAnswer_124 (Nat.le_refl _) (Nat.le_refl _) (kI_mk (by unfold faF; rw [show nmF f (1 - f 5) = i by omega]; first | rw [if_pos (by omega)] | rw [if_neg (by omega)]))
        · refine J_iload_n (pc1 := 119) rfl (i := 3) rfl dX0_findAnswer_118 rfl ?_
          refine J_goto (tgt := 124) dX0_findAnswer_119 rfl ?_
          exact J_iret rfl rfl dX0_findAnswer_124 (Nat.le_refl _) (Nat.le_refl _) (kI_mk (by unfold faF; rw [show nmF f (1 - f 5) = i by omega]; first | rw [if_pos (by omega)] | rw [if_neg (by omega)]))
      · refine J_aload_n (pc1 := 41) rfl (i := 0) rfl dX0_findAnswer_40 rfl ?_
        refine J_aload_n (pc1 := 42) rfl (i := 1) rfl dX0_findAnswer_41 rfl ?_
        refine J_iconst (pc1 := 43) dX0_findAnswer_42 rfl ?_
        refine J_aload_n (pc1 := 44) rfl (i := 0) rfl dX0_findAnswer_43 rfl ?_
        refine J_get (pc1 := 47) (j := 0) inUX0 (ci := 0) rfl (by decide) lf_X0_9 dX0_findAnswer_44 rfl hv rfl ?_
        refine J_get (pc1 := 50) (j := 5) inUX2 (ci := 2) rfl (by decide) lf_X0_15 dX0_findAnswer_47 rfl hg.1 rfl ?_
        refine J_isub (pc1 := 51) dX0_findAnswer_50 rfl ?_
        refine J_iload_n (pc1 := 52) rfl (i := 2) rfl dX0_findAnswer_51 rfl ?_
        refine J_iload (pc1 := 54) rfl dX0_findAnswer_52 rfl ?_
        refine J_callVI (pc1 := 57) (As := [.ref t, .int (iI (1 - (f 5))), .int (iI b), .int (iI (i : Int))]) gv_X0_36 yv_X0_timeBehind rfl (c_X0_timeBehind hv hg ok0 T hT htop hov (p := 1 - (f 5)) (b := b) (a := (i : Int)) (by omega) (by omega) (by omega)) dX0_findAnswer_54 rfl hv rfl rfl (by omega) (by decide) (Nat.zero_le _) (Nat.zero_le _) (Nat.le_of_ble_eq_true rfl) ?_
        refine J_istore (pc1 := 59) (L1 := [some (.ref v), some (.ref t), some (.int (iI b)), some (.int (iI (agU (fun a => tbh f (1 - f 5) b a) 9 i))), some (.int (iI (mnU (fun a => tbh f (1 - f 5) b a) 9 i))), some (.int (iI (ahU (fun a => tbh f (f 5) b a) (-1) i))), some (.int (iI (mxU (fun a => tbh f (f 5) b a) (-1) i))), some (.int (iI (moF f (1 - f 5)))), some (.int (iI (i : Int))), some (.int (iI (tbh f (1 - (f 5)) b (i : Int)))), none]) dX0_findAnswer_57 rfl (by decide) rfl rfl ?_
        refine J_iload (pc1 := 61) rfl dX0_findAnswer_59 rfl ?_
        refine J_iload (pc1 := 63) rfl dX0_findAnswer_61 rfl ?_
        refine J_icmp_ge (pc1 := 66) (tgt := 73) (by omega) (by omega) (by omega) (by omega) dX0_findAnswer_63 rfl rfl (fun hc3 => ?_) (fun hc3 => ?_)
        · refine J_aload_n (pc1 := 74) rfl (i := 0) rfl dX0_findAnswer_73 rfl ?_
          refine J_aload_n (pc1 := 75) rfl (i := 1) rfl dX0_findAnswer_74 rfl ?_
          refine J_aload_n (pc1 := 76) rfl (i := 0) rfl dX0_findAnswer_75 rfl ?_
          refine J_get (pc1 := 79) (j := 0) inUX0 (ci := 0) rfl (by decide) lf_X0_9 dX0_findAnswer_76 rfl hv rfl ?_
          refine J_get (pc1 := 82) (j := 5) inUX2 (ci := 2) rfl (by decide) lf_X0_15 dX0_findAnswer_79 rfl hg.1 rfl ?_
          refine J_iload_n (pc1 := 83) rfl (i := 2) rfl dX0_findAnswer_82 rfl ?_
          refine J_iload (pc1 := 85) rfl dX0_findAnswer_83 rfl ?_
          refine J_callVI (pc1 := 88) (As := [.ref t, .int (iI (f 5)), .int (iI b), .int (iI (i : Int))]) gv_X0_36 yv_X0_timeBehind rfl (c_X0_timeBehind hv hg ok0 T hT htop hov (p := f 5) (b := b) (a := (i : Int)) (by omega) (by omega) (by omega)) dX0_findAnswer_85 rfl hv rfl rfl (by omega) (by decide) (Nat.zero_le _) (Nat.zero_le _) (Nat.le_of_ble_eq_true rfl) ?_
          refine J_istore (pc1 := 90) (L1 := [some (.ref v), some (.ref t), some (.int (iI b)), some (.int (iI (agU (fun a => tbh f (1 - f 5) b a) 9 i))), some (.int (iI (mnU (fun a => tbh f (1 - f 5) b a) 9 i))), some (.int (iI (ahU (fun a => tbh f (f 5) b a) (-1) i))), some (.int (iI (mxU (fun a => tbh f (f 5) b a) (-1) i))), some (.int (iI (moF f (1 - f 5)))), some (.int (iI (i : Int))), some (.int (iI (tbh f (1 - (f 5)) b (i : Int)))), some (.int (iI (tbh f (f 5) b (i : Int))))]) dX0_findAnswer_88 rfl (by decide) rfl rfl ?_
          refine J_iload (pc1 := 92) rfl dX0_findAnswer_90 rfl ?_
          refine J_iload (pc1 := 94) rfl dX0_findAnswer_92 rfl ?_
          refine J_icmp_le (pc1 := 97) (tgt := 105) (by omega) (by omega) (by omega) (by omega) dX0_findAnswer_94 rfl rfl (fun hc4 => ?_) (fun hc4 => ?_)
          · refine J_iinc (pc1 := 108) (L1 := [some (.ref v), some (.ref t), some (.int (iI b)), some (.int (iI (agU (fun a => tbh f (1 - f 5) b a) 9 i))), some (.int (iI (mnU (fun a => tbh f (1 - f 5) b a) 9 i))), some (.int (iI (ahU (fun a => tbh f (f 5) b a) (-1) i))), some (.int (iI (mxU (fun a => tbh f (f 5) b a) (-1) i))), some (.int (iI (moF f (1 - f 5)))), some (.int (iI ((i : Int) + 1))), some (.int (iI (tbh f (1 - (f 5)) b (i : Int)))), some (.int (iI (tbh f (f 5) b (i : Int))))]) dX0_findAnswer_105 rfl rfl (by decide) rfl rfl ?_
            refine J_goto (tgt := 33) dX0_findAnswer_108 rfl ?_
            refine J_sub (L1 := [some (.ref v), some (.ref t), some (.int (iI b)), some (.int (iI (agU (fun a => tbh f (1 - f 5) b a) 9 i))), some (.int (iI (mnU (fun a => tbh f (1 - f 5) b a) 9 i))), some (.int (iI (ahU (fun a => tbh f (f 5) b a) (-1) i))), some (.int (iI (mxU (fun a => tbh f (f 5) b a) (-1) i))), some (.int (iI (moF f (1 - f 5)))), some (.int (iI ((i : Int) + 1))), none, none]) ⟨rfl, rfl, rfl, rfl, rfl, rfl, rfl, rfl, rfl, trivial⟩ ?_
            refine J_L (L1 := [some (.ref v), some (.ref t), some (.int (iI b)), some (.int (iI (agU (fun a => tbh f (1 - f 5) b a) 9 (i + 1)))), some (.int (iI (mnU (fun a => tbh f (1 - f 5) b a) 9 (i + 1)))), some (.int (iI (ahU (fun a => tbh f (f 5) b a) (-1) (i + 1)))), some (.int (iI (mxU (fun a => tbh f (f 5) b a) (-1) (i + 1)))), some (.int (iI (moF f (1 - f 5)))), some (.int (iI ((i + 1 : Nat) : Int))), none, none]) (by rw [show agU (fun a => tbh f (1 - f 5) b a) 9 (i + 1) = if tbh f (1 - f 5) b (i : Int) < mnU (fun a => tbh f (1 - f 5) b a) 9 i then (i : Int) else agU (fun a => tbh f (1 - f 5) b a) 9 i from rfl]; rw [show mnU (fun a => tbh f (1 - f 5) b a) 9 (i + 1) = (if tbh f (1 - f 5) b (i : Int) < mnU (fun a => tbh f (1 - f 5) b a) 9 i then tbh f (1 - f 5) b (i : Int) else mnU (fun a => tbh f (1 - f 5) b a) 9 i) from rfl]; rw [show ahU (fun a => tbh f (f 5) b a) (-1) (i + 1) = if mxU (fun a => tbh f (f 5) b a) (-1) i < tbh f (f 5) b (i : Int) then (i : Int) else ahU (fun a => tbh f (f 5) b a) (-1) i from rfl]; rw [show mxU (fun a => tbh f (f 5) b a) (-1) (i + 1) = (if mxU (fun a => tbh f (f 5) b a) (-1) i < tbh f (f 5) b (i : Int) then tbh f (f 5) b (i : Int) else mxU (fun a => tbh f (f 5) b a) (-1) i) from rfl]; (first | rw [if_pos (by omega), if_pos (by omega), if_pos (by omega), if_pos (by omega)] | rw [if_pos (by omega), if_pos (by omega), if_neg (by omega), if_neg (by omega)] | rw [if_neg (by omega), if_neg (by omega), if_pos (by omega), if_pos (by omega)] | rw [if_neg (by omega), if_neg (by omega), if_neg (by omega), if_neg (by omega)]); rw [(show ((i : Nat) : Int) + 1 = ((i + 1 : Nat) : Int) by omega)]) ?_
            exact ih (i + 1) (by omega) (by omega)
          · refine J_iload (pc1 := 99) rfl dX0_findAnswer_97 rfl ?_
            refine J_istore (pc1 := 101) (L1 := [some (.ref v), some (.ref t), some (.int (iI b)), some (.int (iI (agU (fun a => tbh f (1 - f 5) b a) 9 i))), some (.int (iI (mnU (fun a => tbh f (1 - f 5) b a) 9 i))), some (.int (iI (i : Int))), some (.int (iI (mxU (fun a => tbh f (f 5) b a) (-1) i))), some (.int (iI (moF f (1 - f 5)))), some (.int (iI (i : Int))), some (.int (iI (tbh f (1 - (f 5)) b (i : Int)))), some (.int (iI (tbh f (f 5) b (i : Int))))]) dX0_findAnswer_99 rfl (by decide) rfl rfl ?_
            refine J_iload (pc1 := 103) rfl dX0_findAnswer_101 rfl ?_
            refine J_istore (pc1 := 105) (L1 := [some (.ref v), some (.ref t), some (.int (iI b)), some (.int (iI (agU (fun a => tbh f (1 - f 5) b a) 9 i))), some (.int (iI (mnU (fun a => tbh f (1 - f 5) b a) 9 i))), some (.int (iI (i : Int))), some (.int (iI (tbh f (f 5) b (i : Int)))), some (.int (iI (moF f (1 - f 5)))), some (.int (iI (i : Int))), some (.int (iI (tbh f (1 - (f 5)) b (i : Int)))), some (.int (iI (tbh f (f 5) b (i : Int))))]) dX0_findAnswer_103 rfl (by decide) rfl rfl ?_
            refine J_iinc (pc1 := 108) (L1 := [some (.ref v), some (.ref t), some (.int (iI b)), some (.int (iI (agU (fun a => tbh f (1 - f 5) b a) 9 i))), some (.int (iI (mnU (fun a => tbh f (1 - f 5) b a) 9 i))), some (.int (iI (i : Int))), some (.int (iI (tbh f (f 5) b (i : Int)))), some (.int (iI (moF f (1 - f 5)))), some (.int (iI ((i : Int) + 1))), some (.int (iI (tbh f (1 - (f 5)) b (i : Int)))), some (.int (iI (tbh f (f 5) b (i : Int))))]) dX0_findAnswer_105 rfl rfl (by decide) rfl rfl ?_
            refine J_goto (tgt := 33) dX0_findAnswer_108 rfl ?_
            refine J_sub (L1 := [some (.ref v), some (.ref t), some (.int (iI b)), some (.int (iI (agU (fun a => tbh f (1 - f 5) b a) 9 i))), some (.int (iI (mnU (fun a => tbh f (1 - f 5) b a) 9 i))), some (.int (iI (i : Int))), some (.int (iI (tbh f (f 5) b (i : Int)))), some (.int (iI (moF f (1 - f 5)))), some (.int (iI ((i : Int) + 1))), none, none]) ⟨rfl, rfl, rfl, rfl, rfl, rfl, rfl, rfl, rfl, trivial⟩ ?_
            refine J_L (L1 := [some (.ref v), some (.ref t), some (.int (iI b)), some (.int (iI (agU (fun a => tbh f (1 - f 5) b a) 9 (i + 1)))), some (.int (iI (mnU (fun a => tbh f (1 - f 5) b a) 9 (i + 1)))), some (.int (iI (ahU (fun a => tbh f (f 5) b a) (-1) (i + 1)))), some (.int (iI (mxU (fun a => tbh f (f 5) b a) (-1) (i + 1)))), some (.int (iI (moF f (1 - f 5)))), some (.int (iI ((i + 1 : Nat) : Int))), none, none]) (by rw [show agU (fun a => tbh f (1 - f 5) b a) 9 (i + 1) = if tbh f (1 - f 5) b (i : Int) < mnU (fun a => tbh f (1 - f 5) b a) 9 i then (i : Int) else agU (fun a => tbh f (1 - f 5) b a) 9 i from rfl]; rw [show mnU (fun a => tbh f (1 - f 5) b a) 9 (i + 1) = (if tbh f (1 - f 5) b (i : Int) < mnU (fun a => tbh f (1 - f 5) b a) 9 i then tbh f (1 - f 5) b (i : Int) else mnU (fun a => tbh f (1 - f 5) b a) 9 i) from rfl]; rw [show ahU (fun a => tbh f (f 5) b a) (-1) (i + 1) = if mxU (fun a => tbh f (f 5) b a) (-1) i < tbh f (f 5) b (i : Int) then (i : Int) else ahU (fun a => tbh f (f 5) b a) (-1) i from rfl]; rw [show mxU (fun a => tbh f (f 5) b a) (-1) (i + 1) = (if mxU (fun a => tbh f (f 5) b a) (-1) i < tbh f (f 5) b (i : Int) then tbh f (f 5) b (i : Int) else mxU (fun a => tbh f (f 5) b a) (-1) i) from rfl]; (first | rw [if_pos (by omega), if_pos (by omega), if_pos (by omega), if_pos (by omega)] | rw [if_pos (by omega), if_pos (by omega), if_neg (by omega), if_neg (by omega)] | rw [if_neg (by omega), if_neg (by omega), if_pos (by omega), if_pos (by omega)] | rw [if_neg (by omega), if_neg (by omega), if_neg (by omega), if_neg (by omega)]); rw [(show ((i : Nat) : Int) + 1 = ((i + 1 : Nat) : Int) by omega)]) ?_
            exact ih (i + 1) (by omega) (by omega)
        · refine J_iload (pc1 := 68) rfl dX0_findAnswer_66 rfl ?_
          refine J_istore_n (pc1 := 69) (L1 := [some (.ref v), some (.ref t), some (.int (iI b)), some (.int (iI (i : Int))), some (.int (iI (mnU (fun a => tbh f (1 - f 5) b a) 9 i))), some (.int (iI (ahU (fun a => tbh f (f 5) b a) (-1) i))), some (.int (iI (mxU (fun a => tbh f (f 5) b a) (-1) i))), some (.int (iI (moF f (1 - f 5)))), some (.int (iI (i : Int))), some (.int (iI (tbh f (1 - (f 5)) b (i : Int)))), none]) rfl (i := 3) dX0_findAnswer_68 rfl (by decide) rfl rfl ?_
          refine J_iload (pc1 := 71) rfl dX0_findAnswer_69 rfl ?_
          refine J_istore (pc1 := 73) (L1 := [some (.ref v), some (.ref t), some (.int (iI b)), some (.int (iI (i : Int))), some (.int (iI (tbh f (1 - (f 5)) b (i : Int)))), some (.int (iI (ahU (fun a => tbh f (f 5) b a) (-1) i))), some (.int (iI (mxU (fun a => tbh f (f 5) b a) (-1) i))), some (.int (iI (moF f (1 - f 5)))), some (.int (iI (i : Int))), some (.int (iI (tbh f (1 - (f 5)) b (i : Int)))), none]) dX0_findAnswer_71 rfl (by decide) rfl rfl ?_
          refine J_aload_n (pc1 := 74) rfl (i := 0) rfl dX0_findAnswer_73 rfl ?_
          refine J_aload_n (pc1 := 75) rfl (i := 1) rfl dX0_findAnswer_74 rfl ?_
          refine J_aload_n (pc1 := 76) rfl (i := 0) rfl dX0_findAnswer_75 rfl ?_
          refine J_get (pc1 := 79) (j := 0) inUX0 (ci := 0) rfl (by decide) lf_X0_9 dX0_findAnswer_76 rfl hv rfl ?_
          refine J_get (pc1 := 82) (j := 5) inUX2 (ci := 2) rfl (by decide) lf_X0_15 dX0_findAnswer_79 rfl hg.1 rfl ?_
          refine J_iload_n (pc1 := 83) rfl (i := 2) rfl dX0_findAnswer_82 rfl ?_
          refine J_iload (pc1 := 85) rfl dX0_findAnswer_83 rfl ?_
          refine J_callVI (pc1 := 88) (As := [.ref t, .int (iI (f 5)), .int (iI b), .int (iI (i : Int))]) gv_X0_36 yv_X0_timeBehind rfl (c_X0_timeBehind hv hg ok0 T hT htop hov (p := f 5) (b := b) (a := (i : Int)) (by omega) (by omega) (by omega)) dX0_findAnswer_85 rfl hv rfl rfl (by omega) (by decide) (Nat.zero_le _) (Nat.zero_le _) (Nat.le_of_ble_eq_true rfl) ?_
          refine J_istore (pc1 := 90) (L1 := [some (.ref v), some (.ref t), some (.int (iI b)), some (.int (iI (i : Int))), some (.int (iI (tbh f (1 - (f 5)) b (i : Int)))), some (.int (iI (ahU (fun a => tbh f (f 5) b a) (-1) i))), some (.int (iI (mxU (fun a => tbh f (f 5) b a) (-1) i))), some (.int (iI (moF f (1 - f 5)))), some (.int (iI (i : Int))), some (.int (iI (tbh f (1 - (f 5)) b (i : Int)))), some (.int (iI (tbh f (f 5) b (i : Int))))]) dX0_findAnswer_88 rfl (by decide) rfl rfl ?_
          refine J_iload (pc1 := 92) rfl dX0_findAnswer_90 rfl ?_
          refine J_iload (pc1 := 94) rfl dX0_findAnswer_92 rfl ?_
          refine J_icmp_le (pc1 := 97) (tgt := 105) (by omega) (by omega) (by omega) (by omega) dX0_findAnswer_94 rfl rfl (fun hc5 => ?_) (fun hc5 => ?_)
          · refine J_iinc (pc1 := 108) (L1 := [some (.ref v), some (.ref t), some (.int (iI b)), some (.int (iI (i : Int))), some (.int (iI (tbh f (1 - (f 5)) b (i : Int)))), some (.int (iI (ahU (fun a => tbh f (f 5) b a) (-1) i))), some (.int (iI (mxU (fun a => tbh f (f 5) b a) (-1) i))), some (.int (iI (moF f (1 - f 5)))), some (.int (iI ((i : Int) + 1))), some (.int (iI (tbh f (1 - (f 5)) b (i : Int)))), some (.int (iI (tbh f (f 5) b (i : Int))))]) dX0_findAnswer_105 rfl rfl (by decide) rfl rfl ?_
            refine J_goto (tgt := 33) dX0_findAnswer_108 rfl ?_
            refine J_sub (L1 := [some (.ref v), some (.ref t), some (.int (iI b)), some (.int (iI (i : Int))), some (.int (iI (tbh f (1 - (f 5)) b (i : Int)))), some (.int (iI (ahU (fun a => tbh f (f 5) b a) (-1) i))), some (.int (iI (mxU (fun a => tbh f (f 5) b a) (-1) i))), some (.int (iI (moF f (1 - f 5)))), some (.int (iI ((i : Int) + 1))), none, none]) ⟨rfl, rfl, rfl, rfl, rfl, rfl, rfl, rfl, rfl, trivial⟩ ?_
            refine J_L (L1 := [some (.ref v), some (.ref t), some (.int (iI b)), some (.int (iI (agU (fun a => tbh f (1 - f 5) b a) 9 (i + 1)))), some (.int (iI (mnU (fun a => tbh f (1 - f 5) b a) 9 (i + 1)))), some (.int (iI (ahU (fun a => tbh f (f 5) b a) (-1) (i + 1)))), some (.int (iI (mxU (fun a => tbh f (f 5) b a) (-1) (i + 1)))), some (.int (iI (moF f (1 - f 5)))), some (.int (iI ((i + 1 : Nat) : Int))), none, none]) (by rw [show agU (fun a => tbh f (1 - f 5) b a) 9 (i + 1) = if tbh f (1 - f 5) b (i : Int) < mnU (fun a => tbh f (1 - f 5) b a) 9 i then (i : Int) else agU (fun a => tbh f (1 - f 5) b a) 9 i from rfl]; rw [show mnU (fun a => tbh f (1 - f 5) b a) 9 (i + 1) = (if tbh f (1 - f 5) b (i : Int) < mnU (fun a => tbh f (1 - f 5) b a) 9 i then tbh f (1 - f 5) b (i : Int) else mnU (fun a => tbh f (1 - f 5) b a) 9 i) from rfl]; rw [show ahU (fun a => tbh f (f 5) b a) (-1) (i + 1) = if mxU (fun a => tbh f (f 5) b a) (-1) i < tbh f (f 5) b (i : Int) then (i : Int) else ahU (fun a => tbh f (f 5) b a) (-1) i from rfl]; rw [show mxU (fun a => tbh f (f 5) b a) (-1) (i + 1) = (if mxU (fun a => tbh f (f 5) b a) (-1) i < tbh f (f 5) b (i : Int) then tbh f (f 5) b (i : Int) else mxU (fun a => tbh f (f 5) b a) (-1) i) from rfl]; (first | rw [if_pos (by omega), if_pos (by omega), if_pos (by omega), if_pos (by omega)] | rw [if_pos (by omega), if_pos (by omega), if_neg (by omega), if_neg (by omega)] | rw [if_neg (by omega), if_neg (by omega), if_pos (by omega), if_pos (by omega)] | rw [if_neg (by omega), if_neg (by omega), if_neg (by omega), if_neg (by omega)]); rw [(show ((i : Nat) : Int) + 1 = ((i + 1 : Nat) : Int) by omega)]) ?_
            exact ih (i + 1) (by omega) (by omega)
          · refine J_iload (pc1 := 99) rfl dX0_findAnswer_97 rfl ?_
            refine J_istore (pc1 := 101) (L1 := [some (.ref v), some (.ref t), some (.int (iI b)), some (.int (iI (i : Int))), some (.int (iI (tbh f (1 - (f 5)) b (i : Int)))), some (.int (iI (i : Int))), some (.int (iI (mxU (fun a => tbh f (f 5) b a) (-1) i))), some (.int (iI (moF f (1 - f 5)))), some (.int (iI (i : Int))), some (.int (iI (tbh f (1 - (f 5)) b (i : Int)))), some (.int (iI (tbh f (f 5) b (i : Int))))]) dX0_findAnswer_99 rfl (by decide) rfl rfl ?_
            refine J_iload (pc1 := 103) rfl dX0_findAnswer_101 rfl ?_
            refine J_istore (pc1 := 105) (L1 := [some (.ref v), some (.ref t), some (.int (iI b)), some (.int (iI (i : Int))), some (.int (iI (tbh f (1 - (f 5)) b (i : Int)))), some (.int (iI (i : Int))), some (.int (iI (tbh f (f 5) b (i : Int)))), some (.int (iI (moF f (1 - f 5)))), some (.int (iI (i : Int))), some (.int (iI (tbh f (1 - (f 5)) b (i : Int)))), some (.int (iI (tbh f (f 5) b (i : Int))))]) dX0_findAnswer_103 rfl (by decide) rfl rfl ?_
            refine J_iinc (pc1 := 108) (L1 := [some (.ref v), some (.ref t), some (.int (iI b)), some (.int (iI (i : Int))), some (.int (iI (tbh f (1 - (f 5)) b (i : Int)))), some (.int (iI (i : Int))), some (.int (iI (tbh f (f 5) b (i : Int)))), some (.int (iI (moF f (1 - f 5)))), some (.int (iI ((i : Int) + 1))), some (.int (iI (tbh f (1 - (f 5)) b (i : Int)))), some (.int (iI (tbh f (f 5) b (i : Int))))]) dX0_findAnswer_105 rfl rfl (by decide) rfl rfl ?_
            refine J_goto (tgt := 33) dX0_findAnswer_108 rfl ?_
            refine J_sub (L1 := [some (.ref v), some (.ref t), some (.int (iI b)), some (.int (iI (i : Int))), some (.int (iI (tbh f (1 - (f 5)) b (i : Int)))), some (.int (iI (i : Int))), some (.int (iI (tbh f (f 5) b (i : Int)))), some (.int (iI (moF f (1 - f 5)))), some (.int (iI ((i : Int) + 1))), none, none]) ⟨rfl, rfl, rfl, rfl, rfl, rfl, rfl, rfl, rfl, trivial⟩ ?_
            refine J_L (L1 := [some (.ref v), some (.ref t), some (.int (iI b)), some (.int (iI (agU (fun a => tbh f (1 - f 5) b a) 9 (i + 1)))), some (.int (iI (mnU (fun a => tbh f (1 - f 5) b a) 9 (i + 1)))), some (.int (iI (ahU (fun a => tbh f (f 5) b a) (-1) (i + 1)))), some (.int (iI (mxU (fun a => tbh f (f 5) b a) (-1) (i + 1)))), some (.int (iI (moF f (1 - f 5)))), some (.int (iI ((i + 1 : Nat) : Int))), none, none]) (by rw [show agU (fun a => tbh f (1 - f 5) b a) 9 (i + 1) = if tbh f (1 - f 5) b (i : Int) < mnU (fun a => tbh f (1 - f 5) b a) 9 i then (i : Int) else agU (fun a => tbh f (1 - f 5) b a) 9 i from rfl]; rw [show mnU (fun a => tbh f (1 - f 5) b a) 9 (i + 1) = (if tbh f (1 - f 5) b (i : Int) < mnU (fun a => tbh f (1 - f 5) b a) 9 i then tbh f (1 - f 5) b (i : Int) else mnU (fun a => tbh f (1 - f 5) b a) 9 i) from rfl]; rw [show ahU (fun a => tbh f (f 5) b a) (-1) (i + 1) = if mxU (fun a => tbh f (f 5) b a) (-1) i < tbh f (f 5) b (i : Int) then (i : Int) else ahU (fun a => tbh f (f 5) b a) (-1) i from rfl]; rw [show mxU (fun a => tbh f (f 5) b a) (-1) (i + 1) = (if mxU (fun a => tbh f (f 5) b a) (-1) i < tbh f (f 5) b (i : Int) then tbh f (f 5) b (i : Int) else mxU (fun a => tbh f (f 5) b a) (-1) i) from rfl]; (first | rw [if_pos (by omega), if_pos (by omega), if_pos (by omega), if_pos (by omega)] | rw [if_pos (by omega), if_pos (by omega), if_neg (by omega), if_neg (by omega)] | rw [if_neg (by omega), if_neg (by omega), if_pos (by omega), if_pos (by omega)] | rw [if_neg (by omega), if_neg (by omega), if_neg (by omega), if_neg (by omega)]); rw [(show ((i : Nat) : Int) + 1 = ((i + 1 : Nat) : Int) by omega)]) ?_
            exact ih (i + 1) (by omega) (by omega)
  refine J_iconst (pc1 := 1) dX0_findAnswer_0 rfl ?_
  refine J_istore_n (pc1 := 2) (L1 := [some (.ref v), some (.ref t), some (.int (iI b)), some (.int (iI 0)), none, none, none, none, none, none, none]) rfl (i := 3) dX0_findAnswer_1 rfl (by decide) rfl rfl ?_
  refine J_bipush (pc1 := 4) (by decide) dX0_findAnswer_2 rfl ?_
  refine J_istore (pc1 := 6) (L1 := [some (.ref v), some (.ref t), some (.int (iI b)), some (.int (iI 0)), some (.int (iI 9)), none, none, none, none, none, none]) dX0_findAnswer_4 rfl (by decide) rfl rfl ?_
  refine J_iconst (pc1 := 7) dX0_findAnswer_6 rfl ?_
  refine J_istore (pc1 := 9) (L1 := [some (.ref v), some (.ref t), some (.int (iI b)), some (.int (iI 0)), some (.int (iI 9)), some (.int (iI 0)), none, none, none, none, none]) dX0_findAnswer_7 rfl (by decide) rfl rfl ?_
  refine J_iconst (pc1 := 10) dX0_findAnswer_9 rfl ?_
  refine J_istore (pc1 := 12) (L1 := [some (.ref v), some (.ref t), some (.int (iI b)), some (.int (iI 0)), some (.int (iI 9)), some (.int (iI 0)), some (.int (iI (-1))), none, none, none, none]) dX0_findAnswer_10 rfl (by decide) rfl rfl ?_
  refine J_aload_n (pc1 := 13) rfl (i := 0) rfl dX0_findAnswer_12 rfl ?_
  refine J_get (pc1 := 16) (j := 0) inUX0 (ci := 0) rfl (by decide) lf_X0_9 dX0_findAnswer_13 rfl hv rfl ?_
  refine J_iconst (pc1 := 17) dX0_findAnswer_16 rfl ?_
  refine J_aload_n (pc1 := 18) rfl (i := 0) rfl dX0_findAnswer_17 rfl ?_
  refine J_get (pc1 := 21) (j := 0) inUX0 (ci := 0) rfl (by decide) lf_X0_9 dX0_findAnswer_18 rfl hv rfl ?_
  refine J_get (pc1 := 24) (j := 5) inUX2 (ci := 2) rfl (by decide) lf_X0_15 dX0_findAnswer_21 rfl hg.1 rfl ?_
  refine J_isub (pc1 := 25) dX0_findAnswer_24 rfl ?_
  refine J_callVI (pc1 := 28) (As := [.int (iI (1 - (f 5)))]) gv_X0_21 yv_X2_mostOf rfl (c_X2_mostOf hg (p := 1 - (f 5)) (by omega)) dX0_findAnswer_25 rfl hg.1 rfl rfl (by omega) (by decide) (Nat.zero_le _) (Nat.zero_le _) (Nat.le_of_ble_eq_true rfl) ?_
  refine J_istore (pc1 := 30) (L1 := [some (.ref v), some (.ref t), some (.int (iI b)), some (.int (iI 0)), some (.int (iI 9)), some (.int (iI 0)), some (.int (iI (-1))), some (.int (iI (moF f (1 - (f 5))))), none, none, none]) dX0_findAnswer_28 rfl (by decide) rfl rfl ?_
  refine J_iconst (pc1 := 31) dX0_findAnswer_30 rfl ?_
  refine J_istore (pc1 := 33) (L1 := [some (.ref v), some (.ref t), some (.int (iI b)), some (.int (iI 0)), some (.int (iI 9)), some (.int (iI 0)), some (.int (iI (-1))), some (.int (iI (moF f (1 - (f 5))))), some (.int (iI 0)), none, none]) dX0_findAnswer_31 rfl (by decide) rfl rfl ?_
  exact LP (nmF f (1 - f 5) + 1) 0 (by omega) (by omega)
