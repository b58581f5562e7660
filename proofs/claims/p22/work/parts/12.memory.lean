/-! 12.memory: Memory -/
def FullT (X : Nat → Prop) (S : pS) (t : Nat) (E ti ps top : Int) : Prop := ∃ (ow fo tm w n : Nat) (tg : Int → Int), TbS S t E ti ps top ow fo tm w n tg ∧ aB E ti ps top w 8 tg ∧ ¬ X ow ∧ ¬ X fo ∧ ¬ X tm
def okT (E ti ps top : Int) : Prop := (1 ≤ E ∧ E ≤ 3) ∧ (ti = 0 ∨ ti = 1) ∧ (ps = 0 ∨ ps = 1) ∧ (0 ≤ top ∧ top ≤ 24) ∧ (ps = 1 → top = 8)
def mxF (E ti ps top : Int) : Int := ((E - 1) * 2 + ti) * 26 + (if ps = 0 then top else 25)
def MemOK (X : Nat → Prop) (S : pS) (m ma : Nat) (tb : Int → Option Nat) : Prop := S m = some (oO 4 [.ref ma]) ∧ S ma = some (aQ 1 156 tb) ∧ ∀ E ti ps top t, okT E ti ps top → tb (mxF E ti ps top) = some t → FullT X S t E ti ps top
def topF (f : Int → Int) (sum : Int) : Int := if f 2 = 0 then sum else 8
theorem mxF_b {E ti ps top : Int} (h : okT E ti ps top) : 0 ≤ mxF E ti ps top ∧ mxF E ti ps top < 156 := by
  obtain ⟨h1, h2, h3, h4, h5⟩ := h
  unfold mxF
  split <;> omega
theorem mxF_inj {E ti ps top E' ti' ps' top' : Int} (h : okT E ti ps top) (h' : okT E' ti' ps' top') (e : mxF E ti ps top = mxF E' ti' ps' top') : E = E' ∧ ti = ti' ∧ ps = ps' ∧ top = top' := by
  obtain ⟨h1, h2, h3, h4, h5⟩ := h
  obtain ⟨g1, g2, g3, g4, g5⟩ := h'
  unfold mxF at e
  split at e <;> split at e <;> omega
theorem FullT_fr {X : Nat → Prop} {S S' : pS} {t : Nat} {E ti ps top : Int} (h : FullT X S t E ti ps top) (hf : ∀ a i fs, S a = some (oO i fs) → S' a = S a) (hi : ∀ a n f, S a = some (oI n f) → S' a = S a) : FullT X S' t E ti ps top := by
  obtain ⟨ow, fo, tm, w, n, tg, ⟨h1, h2, h3, h4, h5⟩, h6⟩ := h
  exact ⟨ow, fo, tm, w, n, tg, ⟨(hf _ _ _ h1).trans h1, (hi _ _ _ h2).trans h2, (hi _ _ _ h3).trans h3, (hi _ _ _ h4).trans h4, h5⟩, h6⟩
/-- what Memory.tableFor does -/
def KTF (X : Nat → Prop) (S : pS) (m ma : Nat) (E ti ps top : Int) : Option Value → pS → Prop := fun r S' => ∃ (t : Nat) (tb : Int → Option Nat), r = some (.ref t) ∧ MemOK X S' m ma tb ∧ FullT X S' t E ti ps top ∧ ∀ a, S a ≠ none → a ≠ ma → S' a = S a
theorem KTF_new {X : Nat → Prop} {S S2 : pS} {m ma t : Nat} {tb : Int → Option Nat} {E ti ps top ix : Int} (M : MemOK X S m ma tb) (ok : okT E ti ps top) (hix : ix = mxF E ti ps top) (htb : tb ix = none) (q : Nat) (hq : S q = none) (hT : FullT X S2 t E ti ps top) (fr : ∀ a, S a ≠ none → S2 a = S a) : KTF X S m ma E ti ps top (some (.ref t)) (pu S2 ma (aQ 1 156 (uQ tb ix (some t)))) := by
  obtain ⟨m1, m2, m3⟩ := M
  have e1 : S2 m = some (oO 4 [.ref ma]) := (fr m (by rw [m1]; exact fun z => by cases z)).trans m1
  have e2 : S2 ma = some (aQ 1 156 tb) := (fr ma (by rw [m2]; exact fun z => by cases z)).trans m2
  have up : ∀ {t E ti ps top}, FullT X S2 t E ti ps top → FullT X (pu S2 ma (aQ 1 156 (uQ tb ix (some t)))) t E ti ps top := fun h => FullT_fr h (fun a i fs ha => pu_ne _ _ (ne_OQ ha e2)) (fun a n f ha => pu_ne _ _ (ne_IQ ha e2))
  refine ⟨t, uQ tb ix (some t), rfl, ⟨(pu_ne _ _ (ne_OQ e1 e2)).trans e1, pu_self _ _ _, fun E' ti' ps' top' t' ok' h' => ?_⟩, up hT, fun a a1 a2 => (pu_ne _ _ a2).trans (fr a a1)⟩
  unfold uQ at h'
  split at h'
  · next e =>
    obtain ⟨rfl, rfl, rfl, rfl⟩ := mxF_inj ok' ok (e.trans hix)
    cases h'
    exact FullT_fr hT (fun a i fs ha => pu_ne _ _ (ne_OQ ha e2)) (fun a n f ha => pu_ne _ _ (ne_IQ ha e2))
  · have h1 := m3 E' ti' ps' top' t' ok' h'
    have h2 : FullT X S2 t' E' ti' ps' top' := FullT_fr h1 (fun a i fs ha => fr a (by rw [ha]; exact fun z => by cases z)) (fun a n f ha => fr a (by rw [ha]; exact fun z => by cases z))
    exact FullT_fr h2 (fun a i fs ha => pu_ne _ _ (ne_OQ ha e2)) (fun a n f ha => pu_ne _ _ (ne_IQ ha e2))
set_option maxHeartbeats 2000000 in
set_option maxRecDepth 20000 in
theorem c_X4_tableFor0 {X : Nat → Prop} {S : pS} {m ma g zz oo : Nat} {f : Int → Int} {tb : Int → Option Nat} (hX : ∀ a, X a → S a ≠ none) (M : MemOK X S m ma tb) (hg : IsG S g zz oo f) (ok : okF f) {sum : Int} (hsum : 0 ≤ sum ∧ sum ≤ 24) (hps : f 2 = 0) : Ct yX4_tableFor cX4_tableFor 10 (Option.some (FieldType.object "BorrowedHours$Times")) 6 4 1303 [.ref m, .ref g, .int (iI sum)] S (KTF X S m ma (f 0) (f 3) 0 sum) := by
  have ok0 := ok
  obtain ⟨o0, o1, o2, o3, o4, o5, o7, o9, o10, o12, o13, -⟩ := ok
  have okt : okT (f 0) (f 3) 0 sum := ⟨o0, o3, by omega, by omega, by omega⟩
  have hmn : mn sum 24 = sum := by unfold mn; split <;> omega
  refine Ct.ofJ (by decide +kernel) (Nat.le_of_ble_eq_true rfl) ?_
  refine J_L (L1 := [some (.ref m), some (.ref g), some (.int (iI sum)), none, none, none, none, none, none, none]) rfl ?_
  refine J_aload_n (pc1 := 1) rfl (i := 1) rfl dX4_tableFor_0 rfl ?_
  refine J_get (pc1 := 4) (j := 2) inUX2 (ci := 2) rfl (by decide) lf_X4_17 dX4_tableFor_1 rfl hg.1 rfl ?_
  refine J_if_ne (pc1 := 7) (tgt := 11) (by omega) (by omega) dX4_tableFor_4 rfl rfl (fun hc1 => ?_) (fun hc1 => ?_)
  · exact absurd hps hc1
  · refine J_iconst (pc1 := 8) dX4_tableFor_7 rfl ?_
    refine J_goto (tgt := 12) dX4_tableFor_8 rfl ?_
    refine J_istore_n (pc1 := 13) (L1 := [some (.ref m), some (.ref g), some (.int (iI sum)), some (.int (iI 1)), none, none, none, none, none, none]) rfl (i := 3) dX4_tableFor_12 rfl (by decide) rfl rfl ?_
    refine J_iload_n (pc1 := 14) rfl (i := 3) rfl dX4_tableFor_13 rfl ?_
    refine J_if_eq (pc1 := 17) (tgt := 30) (by decide) (by decide) dX4_tableFor_14 rfl rfl (fun hc2 => ?_) (fun hc2 => ?_)
    · exact absurd hc2 (by decide)
    · refine J_iconst (pc1 := 18) dX4_tableFor_17 rfl ?_
      refine J_iload_n (pc1 := 19) rfl (i := 2) rfl dX4_tableFor_18 rfl ?_
      refine J_bipush (pc1 := 21) (by decide) dX4_tableFor_19 rfl ?_
      refine J_min (pc1 := 24) (by omega) (by omega) (by decide) (by decide) lm_X4_23 dX4_tableFor_21 rfl (by omega) (Nat.le_of_ble_eq_true rfl) (by omega) (by omega) ?_
      refine J_max (pc1 := 27) (by decide) (by decide) (by omega) (by omega) lm_X4_29 dX4_tableFor_24 rfl (by omega) (Nat.le_of_ble_eq_true rfl) (by omega) (by omega) ?_
      refine J_goto (tgt := 32) dX4_tableFor_27 rfl ?_
      refine J_nm (fun z21 hz21 => ?_)
      rw [show z21 = sum by (unfold mx mn at hz21; (repeat' split at hz21) <;> omega)]
      refine J_istore (pc1 := 34) (L1 := [some (.ref m), some (.ref g), some (.int (iI sum)), some (.int (iI 1)), some (.int (iI sum)), none, none, none, none, none]) dX4_tableFor_32 rfl (by decide) rfl rfl ?_
      refine J_iload_n (pc1 := 35) rfl (i := 3) rfl dX4_tableFor_34 rfl ?_
      refine J_if_eq (pc1 := 38) (tgt := 43) (by decide) (by decide) dX4_tableFor_35 rfl rfl (fun hc3 => ?_) (fun hc3 => ?_)
      · exact absurd hc3 (by decide)
      · refine J_iload (pc1 := 40) rfl dX4_tableFor_38 rfl ?_
        refine J_goto (tgt := 45) dX4_tableFor_40 rfl ?_
        refine J_istore (pc1 := 47) (L1 := [some (.ref m), some (.ref g), some (.int (iI sum)), some (.int (iI 1)), some (.int (iI sum)), some (.int (iI sum)), none, none, none, none]) dX4_tableFor_45 rfl (by decide) rfl rfl ?_
        refine J_aload_n (pc1 := 48) rfl (i := 1) rfl dX4_tableFor_47 rfl ?_
        refine J_get (pc1 := 51) (j := 0) inUX2 (ci := 2) rfl (by decide) lf_X4_32 dX4_tableFor_48 rfl hg.1 rfl ?_
        refine J_iconst (pc1 := 52) dX4_tableFor_51 rfl ?_
        refine J_isub (pc1 := 53) dX4_tableFor_52 rfl ?_
        refine J_iconst (pc1 := 54) dX4_tableFor_53 rfl ?_
        refine J_imul (pc1 := 55) dX4_tableFor_54 rfl ?_
        refine J_aload_n (pc1 := 56) rfl (i := 1) rfl dX4_tableFor_55 rfl ?_
        refine J_get (pc1 := 59) (j := 3) inUX2 (ci := 2) rfl (by decide) lf_X4_35 dX4_tableFor_56 rfl hg.1 rfl ?_
        refine J_iadd (pc1 := 60) dX4_tableFor_59 rfl ?_
        refine J_bipush (pc1 := 62) (by decide) dX4_tableFor_60 rfl ?_
        refine J_imul (pc1 := 63) dX4_tableFor_62 rfl ?_
        refine J_iload (pc1 := 65) rfl dX4_tableFor_63 rfl ?_
        refine J_iadd (pc1 := 66) dX4_tableFor_65 rfl ?_
        refine J_nm (fun z22 hz22 => ?_)
        have hix : z22 = mxF (f 0) (f 3) 0 sum := by
          rw [hz22]
          unfold mxF
          first | rw [if_pos rfl] | rw [if_neg (by decide)]
        have hixb := mxF_b okt
        rw [← hix] at hixb
        refine J_istore (pc1 := 68) (L1 := [some (.ref m), some (.ref g), some (.int (iI sum)), some (.int (iI 1)), some (.int (iI sum)), some (.int (iI sum)), some (.int (iI z22)), none, none, none]) dX4_tableFor_66 rfl (by decide) rfl rfl ?_
        refine J_iload (pc1 := 70) rfl dX4_tableFor_68 rfl ?_
        refine J_if_lt (pc1 := 73) (tgt := 87) (by omega) (by omega) dX4_tableFor_70 rfl rfl (fun hc4 => ?_) (fun hc4 => ?_)
        · exact absurd hc4 (by omega)
        · refine J_iload (pc1 := 75) rfl dX4_tableFor_73 rfl ?_
          refine J_aload_n (pc1 := 76) rfl (i := 0) rfl dX4_tableFor_75 rfl ?_
          refine J_get (pc1 := 79) (j := 0) inUX4 (ci := 4) rfl (by decide) lf_X4_13 dX4_tableFor_76 rfl M.1 rfl ?_
          refine J_alenT (pc1 := 80) dX4_tableFor_79 rfl M.2.1 ?_
          refine J_icmp_ge (pc1 := 83) (tgt := 87) (by omega) (by omega) (by decide) (by decide) dX4_tableFor_80 rfl rfl (fun hc5 => ?_) (fun hc5 => ?_)
          · exact absurd hc5 (by omega)
          · refine J_iconst (pc1 := 84) dX4_tableFor_83 rfl ?_
            refine J_goto (tgt := 88) dX4_tableFor_84 rfl ?_
            refine J_istore (pc1 := 90) (L1 := [some (.ref m), some (.ref g), some (.int (iI sum)), some (.int (iI 1)), some (.int (iI sum)), some (.int (iI sum)), some (.int (iI z22)), some (.int (iI 1)), none, none]) dX4_tableFor_88 rfl (by decide) rfl rfl ?_
            refine J_iload (pc1 := 92) rfl dX4_tableFor_90 rfl ?_
            refine J_if_eq (pc1 := 95) (tgt := 105) (by decide) (by decide) dX4_tableFor_92 rfl rfl (fun hc6 => ?_) (fun hc6 => ?_)
            · exact absurd hc6 (by decide)
            · refine J_aload_n (pc1 := 96) rfl (i := 0) rfl dX4_tableFor_95 rfl ?_
              refine J_get (pc1 := 99) (j := 0) inUX4 (ci := 4) rfl (by decide) lf_X4_13 dX4_tableFor_96 rfl M.1 rfl ?_
              refine J_iload (pc1 := 101) rfl dX4_tableFor_99 rfl ?_
              refine J_aaldT (pc1 := 102) dX4_tableFor_101 rfl M.2.1 (by omega) (by omega) (by omega) ?_
              cases htb : tb z22 with
              | none =>
                refine J_st (st1 := [.null]) rfl ?_
                refine J_goto (tgt := 106) dX4_tableFor_102 rfl ?_
                refine J_astoreN (pc1 := 108) (L1 := [some (.ref m), some (.ref g), some (.int (iI sum)), some (.int (iI 1)), some (.int (iI sum)), some (.int (iI sum)), some (.int (iI z22)), some (.int (iI 1)), some (.null), none]) dX4_tableFor_106 rfl (by decide) rfl rfl ?_
                refine J_aloadN (pc1 := 110) rfl dX4_tableFor_108 rfl ?_
                refine J_ifnullN (tgt := 116) dX4_tableFor_110 rfl ?_
                refine J_new (pc1 := 119) (fs := [.int (iI 0), .int (iI 0), .int (iI 0), .int (iI 0), .null, .null, .null]) inUX8 (ci := 8) rfl tyX8 tyX8_ok ll_X4_11 lt_X8 ln_X8 df_X8 dX4_tableFor_116 rfl (by omega) (by omega) (fun q1 n1 => ?_)
                have e_m_q1 : m ≠ q1 := ne_N M.1 n1
                have e_ma_q1 : ma ≠ q1 := ne_N M.2.1 n1
                have e_g_q1 : g ≠ q1 := ne_N hg.1 n1
                have e_zz_q1 : zz ≠ q1 := ne_N hg.2.1 n1
                have e_oo_q1 : oo ≠ q1 := ne_N hg.2.2.1 n1
                refine J_dup (pc1 := 120) rfl dX4_tableFor_119 rfl ?_
                refine J_aload_n (pc1 := 121) rfl (i := 1) rfl dX4_tableFor_120 rfl ?_
                refine J_get (pc1 := 124) (j := 0) inUX2 (ci := 2) rfl (by decide) lf_X4_32 dX4_tableFor_121 rfl ((pu_ne _ _ e_g_q1).trans hg.1) rfl ?_
                refine J_aload_n (pc1 := 125) rfl (i := 1) rfl dX4_tableFor_124 rfl ?_
                refine J_get (pc1 := 128) (j := 3) inUX2 (ci := 2) rfl (by decide) lf_X4_35 dX4_tableFor_125 rfl ((pu_ne _ _ e_g_q1).trans hg.1) rfl ?_
                refine J_iload_n (pc1 := 129) rfl (i := 3) rfl dX4_tableFor_128 rfl ?_
                refine J_iload (pc1 := 131) rfl dX4_tableFor_129 rfl ?_
                refine J_callI_Ns (pc1 := 134) (As := [.int (iI (f 0)), .int (iI (f 3)), .int (iI 1), .int (iI sum)]) (good_C lc_X8_init) yv_X8_init ln_X8 lm_X4_38 li_X8_init (c_X8_init0 o0 o3 ⟨hsum.1, hsum.2⟩ (pu_self _ _ _)) dX4_tableFor_131 rfl rfl rfl (by omega) (by decide) (by omega) (by omega) (Nat.le_of_ble_eq_true rfl) (fun S7 hS7 => ?_)
                obtain ⟨ow, fo, tm, w9, n9, T9, d1, d2, f1, f2, f3, fr9⟩ := hS7
                refine J_astore (pc1 := 136) (L1 := [some (.ref m), some (.ref g), some (.int (iI sum)), some (.int (iI 1)), some (.int (iI sum)), some (.int (iI sum)), some (.int (iI z22)), some (.int (iI 1)), some (.null), some (.ref q1)]) dX4_tableFor_134 rfl (by decide) rfl rfl ?_
                refine J_aload (pc1 := 138) rfl dX4_tableFor_136 rfl ?_
                refine J_callVNs (pc1 := 141) (As := []) gv_X4_41 yv_X8_learnAll rfl (c_X8_learnAll T9 d1 d2 (sgF_a T9.2.2.2.2.2)) dX4_tableFor_138 rfl T9.1 rfl rfl (by omega) (by decide) (by omega) (by omega) (Nat.le_of_ble_eq_true rfl) (fun S9b hS9b => ?_)
                obtain ⟨g9, rfl, gb9, ga9⟩ := hS9b
                have T8 := TbS_pu T9 d1 d2 gb9
                refine J_iload (pc1 := 143) rfl dX4_tableFor_141 rfl ?_
                refine J_if_eq (pc1 := 146) (tgt := 155) (by decide) (by decide) dX4_tableFor_143 rfl rfl (fun hc8 => ?_) (fun hc8 => ?_)
                · exact absurd hc8 (by decide)
                · refine J_aload_n (pc1 := 147) rfl (i := 0) rfl dX4_tableFor_146 rfl ?_
                  refine J_get (pc1 := 150) (j := 0) inUX4 (ci := 4) rfl (by decide) lf_X4_13 dX4_tableFor_147 rfl ((pu_ne _ _ (ne_OI ((fr9 _ (by rw [((pu_ne _ _ e_m_q1).trans M.1)]; exact fun z => by cases z) e_m_q1).trans ((pu_ne _ _ e_m_q1).trans M.1)) T9.2.2.2.1)).trans ((fr9 _ (by rw [((pu_ne _ _ e_m_q1).trans M.1)]; exact fun z => by cases z) e_m_q1).trans ((pu_ne _ _ e_m_q1).trans M.1))) rfl ?_
                  refine J_iload (pc1 := 152) rfl dX4_tableFor_150 rfl ?_
                  refine J_aload (pc1 := 154) rfl dX4_tableFor_152 rfl ?_
                  refine J_aastT (pc1 := 155) dX4_tableFor_154 rfl ((pu_ne _ _ (ne_QI ((fr9 _ (by rw [((pu_ne _ _ e_ma_q1).trans M.2.1)]; exact fun z => by cases z) e_ma_q1).trans ((pu_ne _ _ e_ma_q1).trans M.2.1)) T9.2.2.2.1)).trans ((fr9 _ (by rw [((pu_ne _ _ e_ma_q1).trans M.2.1)]; exact fun z => by cases z) e_ma_q1).trans ((pu_ne _ _ e_ma_q1).trans M.2.1))) ((pu_ne _ _ (ne_OI T9.1 T9.2.2.2.1)).trans T9.1) (by omega) (by omega) (by omega) ?_
                  refine J_aload (pc1 := 157) rfl dX4_tableFor_155 rfl ?_
                  exact J_aret rfl dX4_tableFor_157 (by omega) (by omega) (KTF_new M okt hix htb q1 n1 ⟨ow, fo, tm, w9, n9, g9, T8, ga9, fun z9 => hX _ z9 (pu_none2 f1), fun z9 => hX _ z9 (pu_none2 f2), fun z9 => hX _ z9 (pu_none2 f3)⟩ (fun a a1 => (pu_ne _ _ (fun z9 => a1 (by rw [z9]; exact pu_none2 f3))).trans ((fr9 a (fun z9 => a1 (pu_none2 z9)) (fun z9 => a1 (by rw [z9]; exact n1))).trans (pu_ne _ _ (fun z9 => a1 (by rw [z9]; exact n1))))))
              | some t9 =>
                refine J_st (st1 := [.ref t9]) rfl ?_
                refine J_goto (tgt := 106) dX4_tableFor_102 rfl ?_
                refine J_astore (pc1 := 108) (L1 := [some (.ref m), some (.ref g), some (.int (iI sum)), some (.int (iI 1)), some (.int (iI sum)), some (.int (iI sum)), some (.int (iI z22)), some (.int (iI 1)), some (.ref t9), none]) dX4_tableFor_106 rfl (by decide) rfl rfl ?_
                refine J_aload (pc1 := 110) rfl dX4_tableFor_108 rfl ?_
                refine J_ifnull (pc1 := 113) dX4_tableFor_110 rfl ?_
                refine J_aload (pc1 := 115) rfl dX4_tableFor_113 rfl ?_
                exact J_aret rfl dX4_tableFor_115 (by omega) (by omega) (⟨t9, tb, rfl, M, M.2.2 _ _ _ _ t9 okt (by rw [← hix]; exact htb), fun _ _ _ => rfl⟩)
set_option maxHeartbeats 2000000 in
set_option maxRecDepth 20000 in
theorem c_X4_tableFor1 {X : Nat → Prop} {S : pS} {m ma g zz oo : Nat} {f : Int → Int} {tb : Int → Option Nat} (hX : ∀ a, X a → S a ≠ none) (M : MemOK X S m ma tb) (hg : IsG S g zz oo f) (ok : okF f) {sum : Int} (hsum : -1000 ≤ sum ∧ sum ≤ 1000) (hps : f 2 = 1) : Ct yX4_tableFor cX4_tableFor 10 (Option.some (FieldType.object "BorrowedHours$Times")) 6 4 1303 [.ref m, .ref g, .int (iI sum)] S (KTF X S m ma (f 0) (f 3) 1 8) := by
  have ok0 := ok
  obtain ⟨o0, o1, o2, o3, o4, o5, o7, o9, o10, o12, o13, -⟩ := ok
  have okt : okT (f 0) (f 3) 1 8 := ⟨o0, o3, by omega, by omega, by omega⟩
  refine Ct.ofJ (by decide +kernel) (Nat.le_of_ble_eq_true rfl) ?_
  refine J_L (L1 := [some (.ref m), some (.ref g), some (.int (iI sum)), none, none, none, none, none, none, none]) rfl ?_
  refine J_aload_n (pc1 := 1) rfl (i := 1) rfl dX4_tableFor_0 rfl ?_
  refine J_get (pc1 := 4) (j := 2) inUX2 (ci := 2) rfl (by decide) lf_X4_17 dX4_tableFor_1 rfl hg.1 rfl ?_
  refine J_if_ne (pc1 := 7) (tgt := 11) (by omega) (by omega) dX4_tableFor_4 rfl rfl (fun hc1 => ?_) (fun hc1 => ?_)
  · refine J_iconst (pc1 := 12) dX4_tableFor_11 rfl ?_
    refine J_istore_n (pc1 := 13) (L1 := [some (.ref m), some (.ref g), some (.int (iI sum)), some (.int (iI 0)), none, none, none, none, none, none]) rfl (i := 3) dX4_tableFor_12 rfl (by decide) rfl rfl ?_
    refine J_iload_n (pc1 := 14) rfl (i := 3) rfl dX4_tableFor_13 rfl ?_
    refine J_if_eq (pc1 := 17) (tgt := 30) (by decide) (by decide) dX4_tableFor_14 rfl rfl (fun hc2 => ?_) (fun hc2 => ?_)
    · refine J_bipush (pc1 := 32) (by decide) dX4_tableFor_30 rfl ?_
      refine J_istore (pc1 := 34) (L1 := [some (.ref m), some (.ref g), some (.int (iI sum)), some (.int (iI 0)), some (.int (iI 8)), none, none, none, none, none]) dX4_tableFor_32 rfl (by decide) rfl rfl ?_
      refine J_iload_n (pc1 := 35) rfl (i := 3) rfl dX4_tableFor_34 rfl ?_
      refine J_if_eq (pc1 := 38) (tgt := 43) (by decide) (by decide) dX4_tableFor_35 rfl rfl (fun hc3 => ?_) (fun hc3 => ?_)
      · refine J_bipush (pc1 := 45) (by decide) dX4_tableFor_43 rfl ?_
        refine J_istore (pc1 := 47) (L1 := [some (.ref m), some (.ref g), some (.int (iI sum)), some (.int (iI 0)), some (.int (iI 8)), some (.int (iI 25)), none, none, none, none]) dX4_tableFor_45 rfl (by decide) rfl rfl ?_
        refine J_aload_n (pc1 := 48) rfl (i := 1) rfl dX4_tableFor_47 rfl ?_
        refine J_get (pc1 := 51) (j := 0) inUX2 (ci := 2) rfl (by decide) lf_X4_32 dX4_tableFor_48 rfl hg.1 rfl ?_
        refine J_iconst (pc1 := 52) dX4_tableFor_51 rfl ?_
        refine J_isub (pc1 := 53) dX4_tableFor_52 rfl ?_
        refine J_iconst (pc1 := 54) dX4_tableFor_53 rfl ?_
        refine J_imul (pc1 := 55) dX4_tableFor_54 rfl ?_
        refine J_aload_n (pc1 := 56) rfl (i := 1) rfl dX4_tableFor_55 rfl ?_
        refine J_get (pc1 := 59) (j := 3) inUX2 (ci := 2) rfl (by decide) lf_X4_35 dX4_tableFor_56 rfl hg.1 rfl ?_
        refine J_iadd (pc1 := 60) dX4_tableFor_59 rfl ?_
        refine J_bipush (pc1 := 62) (by decide) dX4_tableFor_60 rfl ?_
        refine J_imul (pc1 := 63) dX4_tableFor_62 rfl ?_
        refine J_iload (pc1 := 65) rfl dX4_tableFor_63 rfl ?_
        refine J_iadd (pc1 := 66) dX4_tableFor_65 rfl ?_
        refine J_nm (fun z23 hz23 => ?_)
        have hix : z23 = mxF (f 0) (f 3) 1 8 := by
          rw [hz23]
          unfold mxF
          first | rw [if_pos rfl] | rw [if_neg (by decide)]
        have hixb := mxF_b okt
        rw [← hix] at hixb
        refine J_istore (pc1 := 68) (L1 := [some (.ref m), some (.ref g), some (.int (iI sum)), some (.int (iI 0)), some (.int (iI 8)), some (.int (iI 25)), some (.int (iI z23)), none, none, none]) dX4_tableFor_66 rfl (by decide) rfl rfl ?_
        refine J_iload (pc1 := 70) rfl dX4_tableFor_68 rfl ?_
        refine J_if_lt (pc1 := 73) (tgt := 87) (by omega) (by omega) dX4_tableFor_70 rfl rfl (fun hc4 => ?_) (fun hc4 => ?_)
        · exact absurd hc4 (by omega)
        · refine J_iload (pc1 := 75) rfl dX4_tableFor_73 rfl ?_
          refine J_aload_n (pc1 := 76) rfl (i := 0) rfl dX4_tableFor_75 rfl ?_
          refine J_get (pc1 := 79) (j := 0) inUX4 (ci := 4) rfl (by decide) lf_X4_13 dX4_tableFor_76 rfl M.1 rfl ?_
          refine J_alenT (pc1 := 80) dX4_tableFor_79 rfl M.2.1 ?_
          refine J_icmp_ge (pc1 := 83) (tgt := 87) (by omega) (by omega) (by decide) (by decide) dX4_tableFor_80 rfl rfl (fun hc5 => ?_) (fun hc5 => ?_)
          · exact absurd hc5 (by omega)
          · refine J_iconst (pc1 := 84) dX4_tableFor_83 rfl ?_
            refine J_goto (tgt := 88) dX4_tableFor_84 rfl ?_
            refine J_istore (pc1 := 90) (L1 := [some (.ref m), some (.ref g), some (.int (iI sum)), some (.int (iI 0)), some (.int (iI 8)), some (.int (iI 25)), some (.int (iI z23)), some (.int (iI 1)), none, none]) dX4_tableFor_88 rfl (by decide) rfl rfl ?_
            refine J_iload (pc1 := 92) rfl dX4_tableFor_90 rfl ?_
            refine J_if_eq (pc1 := 95) (tgt := 105) (by decide) (by decide) dX4_tableFor_92 rfl rfl (fun hc6 => ?_) (fun hc6 => ?_)
            · exact absurd hc6 (by decide)
            · refine J_aload_n (pc1 := 96) rfl (i := 0) rfl dX4_tableFor_95 rfl ?_
              refine J_get (pc1 := 99) (j := 0) inUX4 (ci := 4) rfl (by decide) lf_X4_13 dX4_tableFor_96 rfl M.1 rfl ?_
              refine J_iload (pc1 := 101) rfl dX4_tableFor_99 rfl ?_
              refine J_aaldT (pc1 := 102) dX4_tableFor_101 rfl M.2.1 (by omega) (by omega) (by omega) ?_
              cases htb : tb z23 with
              | none =>
                refine J_st (st1 := [.null]) rfl ?_
                refine J_goto (tgt := 106) dX4_tableFor_102 rfl ?_
                refine J_astoreN (pc1 := 108) (L1 := [some (.ref m), some (.ref g), some (.int (iI sum)), some (.int (iI 0)), some (.int (iI 8)), some (.int (iI 25)), some (.int (iI z23)), some (.int (iI 1)), some (.null), none]) dX4_tableFor_106 rfl (by decide) rfl rfl ?_
                refine J_aloadN (pc1 := 110) rfl dX4_tableFor_108 rfl ?_
                refine J_ifnullN (tgt := 116) dX4_tableFor_110 rfl ?_
                refine J_new (pc1 := 119) (fs := [.int (iI 0), .int (iI 0), .int (iI 0), .int (iI 0), .null, .null, .null]) inUX8 (ci := 8) rfl tyX8 tyX8_ok ll_X4_11 lt_X8 ln_X8 df_X8 dX4_tableFor_116 rfl (by omega) (by omega) (fun q1 n1 => ?_)
                have e_m_q1 : m ≠ q1 := ne_N M.1 n1
                have e_ma_q1 : ma ≠ q1 := ne_N M.2.1 n1
                have e_g_q1 : g ≠ q1 := ne_N hg.1 n1
                have e_zz_q1 : zz ≠ q1 := ne_N hg.2.1 n1
                have e_oo_q1 : oo ≠ q1 := ne_N hg.2.2.1 n1
                refine J_dup (pc1 := 120) rfl dX4_tableFor_119 rfl ?_
                refine J_aload_n (pc1 := 121) rfl (i := 1) rfl dX4_tableFor_120 rfl ?_
                refine J_get (pc1 := 124) (j := 0) inUX2 (ci := 2) rfl (by decide) lf_X4_32 dX4_tableFor_121 rfl ((pu_ne _ _ e_g_q1).trans hg.1) rfl ?_
                refine J_aload_n (pc1 := 125) rfl (i := 1) rfl dX4_tableFor_124 rfl ?_
                refine J_get (pc1 := 128) (j := 3) inUX2 (ci := 2) rfl (by decide) lf_X4_35 dX4_tableFor_125 rfl ((pu_ne _ _ e_g_q1).trans hg.1) rfl ?_
                refine J_iload_n (pc1 := 129) rfl (i := 3) rfl dX4_tableFor_128 rfl ?_
                refine J_iload (pc1 := 131) rfl dX4_tableFor_129 rfl ?_
                refine J_callI_Ns (pc1 := 134) (As := [.int (iI (f 0)), .int (iI (f 3)), .int (iI 0), .int (iI 8)]) (good_C lc_X8_init) yv_X8_init ln_X8 lm_X4_38 li_X8_init (c_X8_init1 o0 o3 (pu_self _ _ _)) dX4_tableFor_131 rfl rfl rfl (by omega) (by decide) (by omega) (by omega) (Nat.le_of_ble_eq_true rfl) (fun S7 hS7 => ?_)
                obtain ⟨ow, fo, tm, w9, n9, T9, d1, d2, f1, f2, f3, fr9⟩ := hS7
                refine J_astore (pc1 := 136) (L1 := [some (.ref m), some (.ref g), some (.int (iI sum)), some (.int (iI 0)), some (.int (iI 8)), some (.int (iI 25)), some (.int (iI z23)), some (.int (iI 1)), some (.null), some (.ref q1)]) dX4_tableFor_134 rfl (by decide) rfl rfl ?_
                refine J_aload (pc1 := 138) rfl dX4_tableFor_136 rfl ?_
                refine J_callVNs (pc1 := 141) (As := []) gv_X4_41 yv_X8_learnAll rfl (c_X8_learnAll T9 d1 d2 (sgF_a T9.2.2.2.2.2)) dX4_tableFor_138 rfl T9.1 rfl rfl (by omega) (by decide) (by omega) (by omega) (Nat.le_of_ble_eq_true rfl) (fun S9b hS9b => ?_)
                obtain ⟨g9, rfl, gb9, ga9⟩ := hS9b
                have T8 := TbS_pu T9 d1 d2 gb9
                refine J_iload (pc1 := 143) rfl dX4_tableFor_141 rfl ?_
                refine J_if_eq (pc1 := 146) (tgt := 155) (by decide) (by decide) dX4_tableFor_143 rfl rfl (fun hc8 => ?_) (fun hc8 => ?_)
                · exact absurd hc8 (by decide)
                · refine J_aload_n (pc1 := 147) rfl (i := 0) rfl dX4_tableFor_146 rfl ?_
                  refine J_get (pc1 := 150) (j := 0) inUX4 (ci := 4) rfl (by decide) lf_X4_13 dX4_tableFor_147 rfl ((pu_ne _ _ (ne_OI ((fr9 _ (by rw [((pu_ne _ _ e_m_q1).trans M.1)]; exact fun z => by cases z) e_m_q1).trans ((pu_ne _ _ e_m_q1).trans M.1)) T9.2.2.2.1)).trans ((fr9 _ (by rw [((pu_ne _ _ e_m_q1).trans M.1)]; exact fun z => by cases z) e_m_q1).trans ((pu_ne _ _ e_m_q1).trans M.1))) rfl ?_
                  refine J_iload (pc1 := 152) rfl dX4_tableFor_150 rfl ?_
                  refine J_aload (pc1 := 154) rfl dX4_tableFor_152 rfl ?_
                  refine J_aastT (pc1 := 155) dX4_tableFor_154 rfl ((pu_ne _ _ (ne_QI ((fr9 _ (by rw [((pu_ne _ _ e_ma_q1).trans M.2.1)]; exact fun z => by cases z) e_ma_q1).trans ((pu_ne _ _ e_ma_q1).trans M.2.1)) T9.2.2.2.1)).trans ((fr9 _ (by rw [((pu_ne _ _ e_ma_q1).trans M.2.1)]; exact fun z => by cases z) e_ma_q1).trans ((pu_ne _ _ e_ma_q1).trans M.2.1))) ((pu_ne _ _ (ne_OI T9.1 T9.2.2.2.1)).trans T9.1) (by omega) (by omega) (by omega) ?_
                  refine J_aload (pc1 := 157) rfl dX4_tableFor_155 rfl ?_
                  exact J_aret rfl dX4_tableFor_157 (by omega) (by omega) (KTF_new M okt hix htb q1 n1 ⟨ow, fo, tm, w9, n9, g9, T8, ga9, fun z9 => hX _ z9 (pu_none2 f1), fun z9 => hX _ z9 (pu_none2 f2), fun z9 => hX _ z9 (pu_none2 f3)⟩ (fun a a1 => (pu_ne _ _ (fun z9 => a1 (by rw [z9]; exact pu_none2 f3))).trans ((fr9 a (fun z9 => a1 (pu_none2 z9)) (fun z9 => a1 (by rw [z9]; exact n1))).trans (pu_ne _ _ (fun z9 => a1 (by rw [z9]; exact n1))))))
              | some t9 =>
                refine J_st (st1 := [.ref t9]) rfl ?_
                refine J_goto (tgt := 106) dX4_tableFor_102 rfl ?_
                refine J_astore (pc1 := 108) (L1 := [some (.ref m), some (.ref g), some (.int (iI sum)), some (.int (iI 0)), some (.int (iI 8)), some (.int (iI 25)), some (.int (iI z23)), some (.int (iI 1)), some (.ref t9), none]) dX4_tableFor_106 rfl (by decide) rfl rfl ?_
                refine J_aload (pc1 := 110) rfl dX4_tableFor_108 rfl ?_
                refine J_ifnull (pc1 := 113) dX4_tableFor_110 rfl ?_
                refine J_aload (pc1 := 115) rfl dX4_tableFor_113 rfl ?_
                exact J_aret rfl dX4_tableFor_115 (by omega) (by omega) (⟨t9, tb, rfl, M, M.2.2 _ _ _ _ t9 okt (by rw [← hix]; exact htb), fun _ _ _ => rfl⟩)
      · exact absurd hc3 (by decide)
    · exact absurd hc2 (by decide)
  · exact absurd (hps.symm.trans hc1) (by decide)
theorem c_X4_tableFor {X : Nat → Prop} {S : pS} {m ma g zz oo : Nat} {f : Int → Int} {tb : Int → Option Nat} (hX : ∀ a, X a → S a ≠ none) (M : MemOK X S m ma tb) (hg : IsG S g zz oo f) (ok : okF f) {sum : Int} (hsum : 0 ≤ sum ∧ sum ≤ 24) : Ct yX4_tableFor cX4_tableFor 10 (Option.some (FieldType.object "BorrowedHours$Times")) 6 4 1303 [.ref m, .ref g, .int (iI sum)] S (KTF X S m ma (f 0) (f 3) (f 2) (topF f sum)) := by
  unfold topF
  rcases ok.2.2.1 with h | h
  · rw [h, if_pos rfl]
    exact c_X4_tableFor0 hX M hg ok hsum h
  · rw [h, if_neg (by decide)]
    exact c_X4_tableFor1 hX M hg ok (by omega) h
set_option maxHeartbeats 400000 in
set_option maxRecDepth 20000 in
theorem c_X4_init {S : pS} {m : Nat} (hm : S m = some (oO 4 [.null])) : Ct yX4_init cX4_init 1 none 1 1 156 [.ref m] S (kNS (fun T => ∃ ma, (∀ X, MemOK X T m ma (fun _ => none)) ∧ S ma = none ∧ ∀ a, S a ≠ none → a ≠ m → T a = S a)) := by
  refine Ct.ofJ (by decide +kernel) (Nat.le_of_ble_eq_true rfl) ?_
  refine J_L (L1 := [some (.ref m)]) rfl ?_
  refine J_aload_n (pc1 := 1) rfl (i := 0) rfl dX4_init_0 rfl ?_
  refine J_objInit (pc1 := 4) lm_X4_5 li_init_Object lc_init_Object dX4_init_1 rfl (by omega) (by decide) ?_
  refine J_aload_n (pc1 := 5) rfl (i := 0) rfl dX4_init_4 rfl ?_
  refine J_sipush (pc1 := 8) (by decide) dX4_init_5 rfl ?_
  refine J_newT (pc1 := 11) (n := 156) ll_X4_11 dX4_init_8 rfl rfl (by omega) (by omega) (by omega) (fun q1 n1 => ?_)
  have e_m_q1 : m ≠ q1 := ne_N hm n1
  refine J_putF (pc1 := 14) (ty := (.array (.object "BorrowedHours$Times"))) (j := 0) (fs1 := [.ref q1]) inUX4 (ci := 4) rfl (by decide) tyX4 tyX4_ok nmX4 rfl rfl rfl (by decide +kernel) lf_X4_13 dX4_init_11 rfl ((pu_ne _ _ e_m_q1).trans hm) rfl (by rfl) (Nat.le_of_ble_eq_true rfl) rfl ?_
  exact J_vret rfl dX4_init_14 (by omega) (by omega) (⟨rfl, q1, fun X => ⟨(pu_self _ _ _), ((pu_ne _ _ (Ne.symm e_m_q1)).trans (pu_self _ _ _)), fun _ _ _ _ _ _ z => by cases z⟩, n1, fun a a1 a2 => ((pu_ne _ _ a2).trans (pu_ne _ _ (fun z9 => a1 (by rw [z9]; exact n1))))⟩)
