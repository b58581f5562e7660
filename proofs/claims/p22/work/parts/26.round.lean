/-! 26.round: isRound -/
theorem m_roundZ {g : GS} {tx : Int → Int} {L : Nat} {b a z : Int} (hb : 0 ≤ b ∧ b ≤ 14) (ha : 0 ≤ a ∧ a ≤ 14) (hal : alF g.1 b a) (hz : tkF g.1 b a = z) : MC yX9_round cX9_round 3 (some .int) 4 3 20 [.int (iI b), .int (iI a)] g tx L z (chg g (plF g.1 b a)) tx L := by
  subst hz
  exact m_round hb ha hal
theorem wn0_1 {f : Int → Int} (ok : okF f) {b a : Int} (ht : tkF f b a = 0) (h : f 4 + 1 = f 0) : plF f b a 15 + plF f b a 16 = f 15 + f 16 + 1 ∧ winF (plF f b a) = 0 := by
  obtain ⟨p0, p1, p2, p3, p4, p5, p6, p7, p8, p9, p10, p11, p12, p13, p14, p15, p16, p17, p18⟩ := plF_at0 ht
  have e : winE (f 0) (f 4 + 1) = 0 := by unfold winE; rw [if_pos (by omega)]
  constructor
  · rw [p15, p16, if_neg (by rw [e]; decide)]; omega
  · show winE (plF f b a 0) (plF f b a 4) = 0
    rw [p0, p4]; exact e
theorem wn0_0 {f : Int → Int} (ok : okF f) (hw : winF f = -1006) {b a : Int} (ht : tkF f b a = 0) (h : ¬ f 4 + 1 = f 0) : plF f b a 15 + plF f b a 16 = f 15 + f 16 + 0 ∧ winF (plF f b a) = -1006 := by
  obtain ⟨p0, p1, p2, p3, p4, p5, p6, p7, p8, p9, p10, p11, p12, p13, p14, p15, p16, p17, p18⟩ := plF_at0 ht
  have hv := win_o hw
  have e : winE (f 0) (f 4 + 1) = -1006 := by unfold winE; rw [if_neg (by omega), if_neg (by omega)]
  constructor
  · rw [p15, p16, if_pos e]; omega
  · show winE (plF f b a 0) (plF f b a 4) = -1006
    rw [p0, p4]; exact e
theorem wn1_1 {f : Int → Int} (ok : okF f) {b a : Int} (ht : tkF f b a = 1) (h : f 4 + -1 = -f 0) : plF f b a 15 + plF f b a 16 = f 15 + f 16 + 1 ∧ winF (plF f b a) = 1 := by
  obtain ⟨p0, p1, p2, p3, p4, p5, p6, p7, p8, p9, p10, p11, p12, p13, p14, p15, p16, p17, p18⟩ := plF_at1 ht
  have h1 := ok.1.1
  have e : winE (f 0) (f 4 + -1) = 1 := by unfold winE; rw [if_neg (by omega), if_pos (by omega)]
  constructor
  · rw [p15, p16, if_neg (by rw [e]; decide)]; omega
  · show winE (plF f b a 0) (plF f b a 4) = 1
    rw [p0, p4]; exact e
theorem wn1_0 {f : Int → Int} (ok : okF f) (hw : winF f = -1006) {b a : Int} (ht : tkF f b a = 1) (h : ¬ f 4 + -1 = -f 0) : plF f b a 15 + plF f b a 16 = f 15 + f 16 + 0 ∧ winF (plF f b a) = -1006 := by
  obtain ⟨p0, p1, p2, p3, p4, p5, p6, p7, p8, p9, p10, p11, p12, p13, p14, p15, p16, p17, p18⟩ := plF_at1 ht
  have hv := win_o hw
  have e : winE (f 0) (f 4 + -1) = -1006 := by unfold winE; rw [if_neg (by omega), if_neg (by omega)]
  constructor
  · rw [p15, p16, if_pos e]; omega
  · show winE (plF f b a 0) (plF f b a 4) = -1006
    rw [p0, p4]; exact e
set_option maxHeartbeats 2000000 in
set_option maxRecDepth 20000 in
theorem ir_00 {A : Nat → Nat} {g : GS} {tx : Int → Int} {L : Nat} {b a : Int} (hb : 0 ≤ b ∧ b ≤ 14) (ha : 0 ≤ a ∧ a ≤ 14) (hal : alF g.1 b a) (ht : tkF g.1 b a = 0) (hps : g.1 2 = 0) : ∀ S, XT S A g tx L → Jd yL_isRound cL_isRound 17 (some .boolean) 9 40 11800 (kIS 1 (fun T => XT T A (chg g (plF g.1 b a)) tx L)) 0 0 S 39 [some (.ref (A 0)), some (.int (iI b)), some (.int (iI a)), some (.int (iI (g.1 5))), some (.int (iI 0)), some (.int (iI (prF g.1 b a))), none, none, none, none, none, none, none, none, none, none, none] [] := by
  intro S hX
  have ok := hX.2.1.1
  have hw : winF g.1 = -1006 := hal.1
  have hv := win_o hw
  have hpb := pr_b ok ⟨hb.1, hal.2.1⟩ ⟨ha.1, hal.2.2⟩
  rw [ht] at hpb
  have hm : moF g.1 0 = g.1 7 + g.1 1 := rfl
  rw [hm] at hpb
  obtain ⟨o0, o1, o2, o3, o4, o5, o7, o9, o10, o12, o13, o18⟩ := id ok
  obtain ⟨p0, p1, p2, p3, p4, p5, p6, p7, p8, p9, p10, p11, p12, p13, p14, p15, p16, p17, p18⟩ := plF_at0 ht
  have hg : gaF g.1 (prF g.1 b a) = prF g.1 b a := gaE0 hps
  have p8b : plF g.1 b a 8 = g.1 8 + prF g.1 b a := by rw [p8, hg]
  have p17b : plF g.1 b a 17 = g.1 17 + 0 := by rw [p17, hg]; omega
  refine J_aload_n (pc1 := 40) rfl (i := 0) rfl dL_isRound_39 rfl ?_
  refine J_iload (pc1 := 42) rfl dL_isRound_40 rfl ?_
  refine J_iconst (pc1 := 43) dL_isRound_42 rfl ?_
  refine J_mX (pc1 := 46) gv_L_37 yv_X9_player hX (m_pl (p := 0) (w := 0) (z := g.1 7) (Or.inl rfl) (by decide) (rfl)) dL_isRound_43 rfl rfl rfl (by omega) (by decide) (by omega) (by omega) (Nat.le_of_ble_eq_true rfl) (fun S1 h1 => ?_)
  refine J_istore (pc1 := 48) (L1 := [some (.ref (A 0)), some (.int (iI b)), some (.int (iI a)), some (.int (iI (g.1 5))), some (.int (iI 0)), some (.int (iI (prF g.1 b a))), some (.int (iI (g.1 7))), none, none, none, none, none, none, none, none, none, none]) dL_isRound_46 rfl (by decide) rfl rfl ?_
  refine J_aload_n (pc1 := 49) rfl (i := 0) rfl dL_isRound_48 rfl ?_
  refine J_iconst (pc1 := 50) dL_isRound_49 rfl ?_
  refine J_iload (pc1 := 52) rfl dL_isRound_50 rfl ?_
  refine J_isubE (pc1 := 53) (z := 1) (by decide) dL_isRound_52 rfl ?_
  refine J_iconst (pc1 := 54) dL_isRound_53 rfl ?_
  refine J_mX (pc1 := 57) gv_L_37 yv_X9_player h1 (m_pl (p := 1) (w := 0) (z := g.1 8) (Or.inr rfl) (by decide) (rfl)) dL_isRound_54 rfl rfl rfl (by omega) (by decide) (by omega) (by omega) (Nat.le_of_ble_eq_true rfl) (fun S2 h2 => ?_)
  refine J_istore (pc1 := 59) (L1 := [some (.ref (A 0)), some (.int (iI b)), some (.int (iI a)), some (.int (iI (g.1 5))), some (.int (iI 0)), some (.int (iI (prF g.1 b a))), some (.int (iI (g.1 7))), some (.int (iI (g.1 8))), none, none, none, none, none, none, none, none, none]) dL_isRound_57 rfl (by decide) rfl rfl ?_
  refine J_aload_n (pc1 := 60) rfl (i := 0) rfl dL_isRound_59 rfl ?_
  refine J_iload (pc1 := 62) rfl dL_isRound_60 rfl ?_
  refine J_iconst (pc1 := 63) dL_isRound_62 rfl ?_
  refine J_mX (pc1 := 66) gv_L_37 yv_X9_player h2 (m_pl (p := 0) (w := 3) (z := g.1 11) (Or.inl rfl) (by decide) (rfl)) dL_isRound_63 rfl rfl rfl (by omega) (by decide) (by omega) (by omega) (Nat.le_of_ble_eq_true rfl) (fun S3 h3 => ?_)
  refine J_istore (pc1 := 68) (L1 := [some (.ref (A 0)), some (.int (iI b)), some (.int (iI a)), some (.int (iI (g.1 5))), some (.int (iI 0)), some (.int (iI (prF g.1 b a))), some (.int (iI (g.1 7))), some (.int (iI (g.1 8))), some (.int (iI (g.1 11))), none, none, none, none, none, none, none, none]) dL_isRound_66 rfl (by decide) rfl rfl ?_
  refine J_aload_n (pc1 := 69) rfl (i := 0) rfl dL_isRound_68 rfl ?_
  refine J_iload (pc1 := 71) rfl dL_isRound_69 rfl ?_
  refine J_iconst (pc1 := 72) dL_isRound_71 rfl ?_
  refine J_mX (pc1 := 75) gv_L_37 yv_X9_player h3 (m_pl (p := 0) (w := 4) (z := g.1 13) (Or.inl rfl) (by decide) (rfl)) dL_isRound_72 rfl rfl rfl (by omega) (by decide) (by omega) (by omega) (Nat.le_of_ble_eq_true rfl) (fun S4 h4 => ?_)
  refine J_istore (pc1 := 77) (L1 := [some (.ref (A 0)), some (.int (iI b)), some (.int (iI a)), some (.int (iI (g.1 5))), some (.int (iI 0)), some (.int (iI (prF g.1 b a))), some (.int (iI (g.1 7))), some (.int (iI (g.1 8))), some (.int (iI (g.1 11))), some (.int (iI (g.1 13))), none, none, none, none, none, none, none]) dL_isRound_75 rfl (by decide) rfl rfl ?_
  refine J_aload_n (pc1 := 78) rfl (i := 0) rfl dL_isRound_77 rfl ?_
  refine J_iconst (pc1 := 79) dL_isRound_78 rfl ?_
  refine J_mX (pc1 := 82) gv_L_23 yv_X9_count h4 (m_cn (w := 4) (z := g.1 4) (by decide) (rfl)) dL_isRound_79 rfl rfl rfl (by omega) (by decide) (by omega) (by omega) (Nat.le_of_ble_eq_true rfl) (fun S5 h5 => ?_)
  refine J_istore (pc1 := 84) (L1 := [some (.ref (A 0)), some (.int (iI b)), some (.int (iI a)), some (.int (iI (g.1 5))), some (.int (iI 0)), some (.int (iI (prF g.1 b a))), some (.int (iI (g.1 7))), some (.int (iI (g.1 8))), some (.int (iI (g.1 11))), some (.int (iI (g.1 13))), some (.int (iI (g.1 4))), none, none, none, none, none, none]) dL_isRound_82 rfl (by decide) rfl rfl ?_
  refine J_aload_n (pc1 := 85) rfl (i := 0) rfl dL_isRound_84 rfl ?_
  refine J_bipush (pc1 := 87) (by decide) dL_isRound_85 rfl ?_
  refine J_mX (pc1 := 90) gv_L_23 yv_X9_count h5 (m_cn (w := 6) (z := g.1 6) (by decide) (rfl)) dL_isRound_87 rfl rfl rfl (by omega) (by decide) (by omega) (by omega) (Nat.le_of_ble_eq_true rfl) (fun S6 h6 => ?_)
  refine J_istore (pc1 := 92) (L1 := [some (.ref (A 0)), some (.int (iI b)), some (.int (iI a)), some (.int (iI (g.1 5))), some (.int (iI 0)), some (.int (iI (prF g.1 b a))), some (.int (iI (g.1 7))), some (.int (iI (g.1 8))), some (.int (iI (g.1 11))), some (.int (iI (g.1 13))), some (.int (iI (g.1 4))), some (.int (iI (g.1 6))), none, none, none, none, none]) dL_isRound_90 rfl (by decide) rfl rfl ?_
  refine J_aload_n (pc1 := 93) rfl (i := 0) rfl dL_isRound_92 rfl ?_
  refine J_bipush (pc1 := 95) (by decide) dL_isRound_93 rfl ?_
  refine J_mX (pc1 := 98) gv_L_23 yv_X9_count h6 (m_cn (w := 8) (z := g.1 17) (by decide) (rfl)) dL_isRound_95 rfl rfl rfl (by omega) (by decide) (by omega) (by omega) (Nat.le_of_ble_eq_true rfl) (fun S7 h7 => ?_)
  refine J_istore (pc1 := 100) (L1 := [some (.ref (A 0)), some (.int (iI b)), some (.int (iI a)), some (.int (iI (g.1 5))), some (.int (iI 0)), some (.int (iI (prF g.1 b a))), some (.int (iI (g.1 7))), some (.int (iI (g.1 8))), some (.int (iI (g.1 11))), some (.int (iI (g.1 13))), some (.int (iI (g.1 4))), some (.int (iI (g.1 6))), some (.int (iI (g.1 17))), none, none, none, none]) dL_isRound_98 rfl (by decide) rfl rfl ?_
  refine J_aload_n (pc1 := 101) rfl (i := 0) rfl dL_isRound_100 rfl ?_
  refine J_bipush (pc1 := 103) (by decide) dL_isRound_101 rfl ?_
  refine J_mX (pc1 := 106) gv_L_23 yv_X9_count h7 (m_cn (w := 9) (z := g.1 15 + g.1 16) (by decide) (rfl)) dL_isRound_103 rfl rfl rfl (by omega) (by decide) (by omega) (by omega) (Nat.le_of_ble_eq_true rfl) (fun S8 h8 => ?_)
  refine J_istore (pc1 := 108) (L1 := [some (.ref (A 0)), some (.int (iI b)), some (.int (iI a)), some (.int (iI (g.1 5))), some (.int (iI 0)), some (.int (iI (prF g.1 b a))), some (.int (iI (g.1 7))), some (.int (iI (g.1 8))), some (.int (iI (g.1 11))), some (.int (iI (g.1 13))), some (.int (iI (g.1 4))), some (.int (iI (g.1 6))), some (.int (iI (g.1 17))), some (.int (iI (g.1 15 + g.1 16))), none, none, none]) dL_isRound_106 rfl (by decide) rfl rfl ?_
  refine J_aload_n (pc1 := 109) rfl (i := 0) rfl dL_isRound_108 rfl ?_
  refine J_iconst (pc1 := 110) dL_isRound_109 rfl ?_
  refine J_mX (pc1 := 113) gv_L_23 yv_X9_count h8 (m_cn (w := 2) (z := 0) (by decide) (cz2.trans hps)) dL_isRound_110 rfl rfl rfl (by omega) (by decide) (by omega) (by omega) (Nat.le_of_ble_eq_true rfl) (fun S9 h9 => ?_)
  refine J_iconst (pc1 := 114) dL_isRound_113 rfl ?_
  refine J_icmp_ne (pc1 := 117) (tgt := 121) (by decide) (by decide) (by decide) (by decide) dL_isRound_114 rfl rfl (fun hc1 => ?_) (fun hc1 => ?_)
  · refine J_iconst (pc1 := 122) dL_isRound_121 rfl ?_
    refine J_istore (pc1 := 124) (L1 := [some (.ref (A 0)), some (.int (iI b)), some (.int (iI a)), some (.int (iI (g.1 5))), some (.int (iI 0)), some (.int (iI (prF g.1 b a))), some (.int (iI (g.1 7))), some (.int (iI (g.1 8))), some (.int (iI (g.1 11))), some (.int (iI (g.1 13))), some (.int (iI (g.1 4))), some (.int (iI (g.1 6))), some (.int (iI (g.1 17))), some (.int (iI (g.1 15 + g.1 16))), some (.int (iI 0)), none, none]) dL_isRound_122 rfl (by decide) rfl rfl ?_
    refine J_aload_n (pc1 := 125) rfl (i := 0) rfl dL_isRound_124 rfl ?_
    refine J_iload_n (pc1 := 126) rfl (i := 1) rfl dL_isRound_125 rfl ?_
    refine J_iload_n (pc1 := 127) rfl (i := 2) rfl dL_isRound_126 rfl ?_
    refine J_mX (pc1 := 130) gv_L_56 yv_X9_round h9 (m_roundZ hb ha hal ht) dL_isRound_127 rfl rfl rfl (by omega) (by decide) (by omega) (by omega) (Nat.le_of_ble_eq_true rfl) (fun S10 h10 => ?_)
    refine J_iload (pc1 := 132) rfl dL_isRound_130 rfl ?_
    refine J_icmp_ne (pc1 := 135) (tgt := 266) (by decide) (by decide) (by decide) (by decide) dL_isRound_132 rfl rfl (fun hc2 => ?_) (fun hc2 => ?_)
    · exact absurd hc2 (by decide)
    · refine J_aload_n (pc1 := 136) rfl (i := 0) rfl dL_isRound_135 rfl ?_
      refine J_iload (pc1 := 138) rfl dL_isRound_136 rfl ?_
      refine J_iconst (pc1 := 139) dL_isRound_138 rfl ?_
      refine J_mX (pc1 := 142) gv_L_37 yv_X9_player h10 (m_pl (p := 0) (w := 0) (z := g.1 7 - prF g.1 b a) (Or.inl rfl) (by decide) (p7)) dL_isRound_139 rfl rfl rfl (by omega) (by decide) (by omega) (by omega) (Nat.le_of_ble_eq_true rfl) (fun S11 h11 => ?_)
      refine J_iload (pc1 := 144) rfl dL_isRound_142 rfl ?_
      refine J_iload (pc1 := 146) rfl dL_isRound_144 rfl ?_
      refine J_isub (pc1 := 147) dL_isRound_146 rfl ?_
      refine J_neS (pc1 := 150) (tgt := 266) dL_isRound_147 rfl rfl (by first | rfl | omega) ?_
      refine J_aload_n (pc1 := 151) rfl (i := 0) rfl dL_isRound_150 rfl ?_
      refine J_iconst (pc1 := 152) dL_isRound_151 rfl ?_
      refine J_iload (pc1 := 154) rfl dL_isRound_152 rfl ?_
      refine J_isubE (pc1 := 155) (z := 1) (by decide) dL_isRound_154 rfl ?_
      refine J_iconst (pc1 := 156) dL_isRound_155 rfl ?_
      refine J_mX (pc1 := 159) gv_L_37 yv_X9_player h11 (m_pl (p := 1) (w := 0) (z := g.1 8 + prF g.1 b a) (Or.inr rfl) (by decide) (p8b)) dL_isRound_156 rfl rfl rfl (by omega) (by decide) (by omega) (by omega) (Nat.le_of_ble_eq_true rfl) (fun S12 h12 => ?_)
      refine J_iload (pc1 := 161) rfl dL_isRound_159 rfl ?_
      refine J_iload (pc1 := 163) rfl dL_isRound_161 rfl ?_
      refine J_if_eq (pc1 := 166) (tgt := 170) (by decide) (by decide) dL_isRound_163 rfl rfl (fun hc3 => ?_) (fun hc3 => ?_)
      · refine J_iload (pc1 := 172) rfl dL_isRound_170 rfl ?_
        refine J_iadd (pc1 := 173) dL_isRound_172 rfl ?_
        refine J_neS (pc1 := 176) (tgt := 266) dL_isRound_173 rfl rfl (by first | rfl | omega) ?_
        refine J_aload_n (pc1 := 177) rfl (i := 0) rfl dL_isRound_176 rfl ?_
        refine J_bipush (pc1 := 179) (by decide) dL_isRound_177 rfl ?_
        refine J_mX (pc1 := 182) gv_L_23 yv_X9_count h12 (m_cn (w := 8) (z := g.1 17 + 0) (by decide) ((by rw [cz8]; exact p17b))) dL_isRound_179 rfl rfl rfl (by omega) (by decide) (by omega) (by omega) (Nat.le_of_ble_eq_true rfl) (fun S13 h13 => ?_)
        refine J_iload (pc1 := 184) rfl dL_isRound_182 rfl ?_
        refine J_iload (pc1 := 186) rfl dL_isRound_184 rfl ?_
        refine J_if_eq (pc1 := 189) (tgt := 194) (by decide) (by decide) dL_isRound_186 rfl rfl (fun hc4 => ?_) (fun hc4 => ?_)
        · refine J_iconst (pc1 := 195) dL_isRound_194 rfl ?_
          refine J_iadd (pc1 := 196) dL_isRound_195 rfl ?_
          refine J_neS (pc1 := 199) (tgt := 266) dL_isRound_196 rfl rfl (by first | rfl | omega) ?_
          refine J_aload_n (pc1 := 200) rfl (i := 0) rfl dL_isRound_199 rfl ?_
          refine J_iload (pc1 := 202) rfl dL_isRound_200 rfl ?_
          refine J_iconst (pc1 := 203) dL_isRound_202 rfl ?_
          refine J_mX (pc1 := 206) gv_L_37 yv_X9_player h13 (m_pl (p := 0) (w := 3) (z := g.1 11 + prF g.1 b a) (Or.inl rfl) (by decide) (p11)) dL_isRound_203 rfl rfl rfl (by omega) (by decide) (by omega) (by omega) (Nat.le_of_ble_eq_true rfl) (fun S14 h14 => ?_)
          refine J_iload (pc1 := 208) rfl dL_isRound_206 rfl ?_
          refine J_iload (pc1 := 210) rfl dL_isRound_208 rfl ?_
          refine J_iadd (pc1 := 211) dL_isRound_210 rfl ?_
          refine J_neS (pc1 := 214) (tgt := 266) dL_isRound_211 rfl rfl (by first | rfl | omega) ?_
          refine J_aload_n (pc1 := 215) rfl (i := 0) rfl dL_isRound_214 rfl ?_
          refine J_iload (pc1 := 217) rfl dL_isRound_215 rfl ?_
          refine J_iconst (pc1 := 218) dL_isRound_217 rfl ?_
          refine J_mX (pc1 := 221) gv_L_37 yv_X9_player h14 (m_pl (p := 0) (w := 4) (z := g.1 13 + 1) (Or.inl rfl) (by decide) (p13)) dL_isRound_218 rfl rfl rfl (by omega) (by decide) (by omega) (by omega) (Nat.le_of_ble_eq_true rfl) (fun S15 h15 => ?_)
          refine J_iload (pc1 := 223) rfl dL_isRound_221 rfl ?_
          refine J_iconst (pc1 := 224) dL_isRound_223 rfl ?_
          refine J_iadd (pc1 := 225) dL_isRound_224 rfl ?_
          refine J_neS (pc1 := 228) (tgt := 266) dL_isRound_225 rfl rfl (by first | rfl | omega) ?_
          refine J_aload_n (pc1 := 229) rfl (i := 0) rfl dL_isRound_228 rfl ?_
          refine J_iconst (pc1 := 230) dL_isRound_229 rfl ?_
          refine J_mX (pc1 := 233) gv_L_23 yv_X9_count h15 (m_cn (w := 4) (z := g.1 4 + 1) (by decide) (p4)) dL_isRound_230 rfl rfl rfl (by omega) (by decide) (by omega) (by omega) (Nat.le_of_ble_eq_true rfl) (fun S16 h16 => ?_)
          refine J_iload (pc1 := 235) rfl dL_isRound_233 rfl ?_
          refine J_iload (pc1 := 237) rfl dL_isRound_235 rfl ?_
          refine J_if_ne (pc1 := 240) (tgt := 244) (by decide) (by decide) dL_isRound_237 rfl rfl (fun hc5 => ?_) (fun hc5 => ?_)
          · exact absurd hc5 (by decide)
          · refine J_iconst (pc1 := 241) dL_isRound_240 rfl ?_
            refine J_goto (tgt := 245) dL_isRound_241 rfl ?_
            refine J_iadd (pc1 := 246) dL_isRound_245 rfl ?_
            refine J_neS (pc1 := 249) (tgt := 266) dL_isRound_246 rfl rfl (by first | rfl | omega) ?_
            refine J_aload_n (pc1 := 250) rfl (i := 0) rfl dL_isRound_249 rfl ?_
            refine J_bipush (pc1 := 252) (by decide) dL_isRound_250 rfl ?_
            refine J_mX (pc1 := 255) gv_L_23 yv_X9_count h16 (m_cn (w := 6) (z := g.1 6 + 1) (by decide) (p6)) dL_isRound_252 rfl rfl rfl (by omega) (by decide) (by omega) (by omega) (Nat.le_of_ble_eq_true rfl) (fun S17 h17 => ?_)
            refine J_iload (pc1 := 257) rfl dL_isRound_255 rfl ?_
            refine J_iconst (pc1 := 258) dL_isRound_257 rfl ?_
            refine J_iadd (pc1 := 259) dL_isRound_258 rfl ?_
            refine J_neS (pc1 := 262) (tgt := 266) dL_isRound_259 rfl rfl (by first | rfl | omega) ?_
            refine J_iconst (pc1 := 263) dL_isRound_262 rfl ?_
            refine J_goto (tgt := 267) dL_isRound_263 rfl ?_
            refine J_istore (pc1 := 269) (L1 := [some (.ref (A 0)), some (.int (iI b)), some (.int (iI a)), some (.int (iI (g.1 5))), some (.int (iI 0)), some (.int (iI (prF g.1 b a))), some (.int (iI (g.1 7))), some (.int (iI (g.1 8))), some (.int (iI (g.1 11))), some (.int (iI (g.1 13))), some (.int (iI (g.1 4))), some (.int (iI (g.1 6))), some (.int (iI (g.1 17))), some (.int (iI (g.1 15 + g.1 16))), some (.int (iI 0)), some (.int (iI 1)), none]) dL_isRound_267 rfl (by decide) rfl rfl ?_
            refine J_aload_n (pc1 := 270) rfl (i := 0) rfl dL_isRound_269 rfl ?_
            refine J_iconst (pc1 := 271) dL_isRound_270 rfl ?_
            refine J_mX (pc1 := 274) gv_L_23 yv_X9_count h17 (m_cn (w := 4) (z := g.1 4 + 1) (by decide) (p4)) dL_isRound_271 rfl rfl rfl (by omega) (by decide) (by omega) (by omega) (Nat.le_of_ble_eq_true rfl) (fun S18 h18 => ?_)
            refine J_aload_n (pc1 := 275) rfl (i := 0) rfl dL_isRound_274 rfl ?_
            refine J_iconst (pc1 := 276) dL_isRound_275 rfl ?_
            refine J_mX (pc1 := 279) gv_L_23 yv_X9_count h18 (m_cn (w := 0) (z := g.1 0) (by decide) (p0)) dL_isRound_276 rfl rfl rfl (by omega) (by decide) (by omega) (by omega) (Nat.le_of_ble_eq_true rfl) (fun S19 h19 => ?_)
            refine J_icmp_eq (pc1 := 282) (tgt := 296) (by omega) (by omega) (by omega) (by omega) dL_isRound_279 rfl rfl (fun hc6 => ?_) (fun hc6 => ?_)
            · refine J_iconst (pc1 := 297) dL_isRound_296 rfl ?_
              refine J_goto (tgt := 301) dL_isRound_297 rfl ?_
              refine J_istore (pc1 := 303) (L1 := [some (.ref (A 0)), some (.int (iI b)), some (.int (iI a)), some (.int (iI (g.1 5))), some (.int (iI 0)), some (.int (iI (prF g.1 b a))), some (.int (iI (g.1 7))), some (.int (iI (g.1 8))), some (.int (iI (g.1 11))), some (.int (iI (g.1 13))), some (.int (iI (g.1 4))), some (.int (iI (g.1 6))), some (.int (iI (g.1 17))), some (.int (iI (g.1 15 + g.1 16))), some (.int (iI 0)), some (.int (iI 1)), some (.int (iI 1))]) dL_isRound_301 rfl (by decide) rfl rfl ?_
              refine J_iload (pc1 := 305) rfl dL_isRound_303 rfl ?_
              refine J_if_eq (pc1 := 308) (tgt := 394) (by decide) (by decide) dL_isRound_305 rfl rfl (fun hc7 => ?_) (fun hc7 => ?_)
              · exact absurd hc7 (by decide)
              · refine J_aload_n (pc1 := 309) rfl (i := 0) rfl dL_isRound_308 rfl ?_
                refine J_bipush (pc1 := 311) (by decide) dL_isRound_309 rfl ?_
                refine J_mX (pc1 := 314) gv_L_23 yv_X9_count h19 (m_cn (w := 9) (z := g.1 15 + g.1 16 + 1) (by decide) (cz9.trans (wn0_1 ok ht hc6).1)) dL_isRound_311 rfl rfl rfl (by omega) (by decide) (by omega) (by omega) (Nat.le_of_ble_eq_true rfl) (fun S20 h20 => ?_)
                refine J_iload (pc1 := 316) rfl dL_isRound_314 rfl ?_
                refine J_iload (pc1 := 318) rfl dL_isRound_316 rfl ?_
                refine J_if_eq (pc1 := 321) (tgt := 325) (by decide) (by decide) dL_isRound_318 rfl rfl (fun hc8 => ?_) (fun hc8 => ?_)
                · exact absurd hc8 (by decide)
                · refine J_iconst (pc1 := 322) dL_isRound_321 rfl ?_
                  refine J_goto (tgt := 326) dL_isRound_322 rfl ?_
                  refine J_iadd (pc1 := 327) dL_isRound_326 rfl ?_
                  refine J_neS (pc1 := 330) (tgt := 394) dL_isRound_327 rfl rfl (by first | rfl | omega) ?_
                  refine J_aload_n (pc1 := 331) rfl (i := 0) rfl dL_isRound_330 rfl ?_
                  refine J_bipush (pc1 := 333) (by decide) dL_isRound_331 rfl ?_
                  refine J_mX (pc1 := 336) gv_L_23 yv_X9_count h20 (m_cn (w := 7) (z := 0) (by decide) (cz7.trans (wn0_1 ok ht hc6).2)) dL_isRound_333 rfl rfl rfl (by omega) (by decide) (by omega) (by omega) (Nat.le_of_ble_eq_true rfl) (fun S21 h21 => ?_)
                  refine J_iload (pc1 := 338) rfl dL_isRound_336 rfl ?_
                  refine J_if_eq (pc1 := 341) (tgt := 346) (by decide) (by decide) dL_isRound_338 rfl rfl (fun hc9 => ?_) (fun hc9 => ?_)
                  · exact absurd hc9 (by decide)
                  · refine J_iload (pc1 := 343) rfl dL_isRound_341 rfl ?_
                    refine J_goto (tgt := 349) dL_isRound_343 rfl ?_
                    refine J_icmp_ne (pc1 := 352) (tgt := 394) (by decide) (by decide) (by decide) (by decide) dL_isRound_349 rfl rfl (fun hc10 => ?_) (fun hc10 => ?_)
                    · exact absurd hc10 (by decide)
                    · refine J_aload_n (pc1 := 353) rfl (i := 0) rfl dL_isRound_352 rfl ?_
                      refine J_iconst (pc1 := 354) dL_isRound_353 rfl ?_
                      refine J_mX (pc1 := 357) gv_L_23 yv_X9_count h21 (m_cn (w := 5) (z := (-1006)) (by decide) (cz5x (by rw [(wn0_1 ok ht hc6).2]; decide))) dL_isRound_354 rfl rfl rfl (by omega) (by decide) (by omega) (by omega) (Nat.le_of_ble_eq_true rfl) (fun S22 h22 => ?_)
                      refine J_iload (pc1 := 359) rfl dL_isRound_357 rfl ?_
                      refine J_if_eq (pc1 := 362) (tgt := 368) (by decide) (by decide) dL_isRound_359 rfl rfl (fun hc11 => ?_) (fun hc11 => ?_)
                      · exact absurd hc11 (by decide)
                      · refine J_sipush (pc1 := 365) (by decide) dL_isRound_362 rfl ?_
                        refine J_goto (tgt := 371) dL_isRound_365 rfl ?_
                        refine J_neS (pc1 := 374) (tgt := 394) dL_isRound_371 rfl rfl (by first | rfl | omega) ?_
                        refine J_aload_n (pc1 := 375) rfl (i := 0) rfl dL_isRound_374 rfl ?_
                        refine J_iload (pc1 := 377) rfl dL_isRound_375 rfl ?_
                        refine J_iconst (pc1 := 378) dL_isRound_377 rfl ?_
                        refine J_mX (pc1 := 381) gv_L_37 yv_X9_player h22 (m_pl (p := 0) (w := 0) (z := g.1 7 - prF g.1 b a) (Or.inl rfl) (by decide) (p7)) dL_isRound_378 rfl rfl rfl (by omega) (by decide) (by omega) (by omega) (Nat.le_of_ble_eq_true rfl) (fun S23 h23 => ?_)
                        refine J_aload_n (pc1 := 382) rfl (i := 0) rfl dL_isRound_381 rfl ?_
                        refine J_iconst (pc1 := 383) dL_isRound_382 rfl ?_
                        refine J_mX (pc1 := 386) gv_L_23 yv_X9_count h23 (m_cn (w := 1) (z := g.1 1) (by decide) (p1)) dL_isRound_383 rfl rfl rfl (by omega) (by decide) (by omega) (by omega) (Nat.le_of_ble_eq_true rfl) (fun S24 h24 => ?_)
                        refine J_ineg (pc1 := 387) dL_isRound_386 rfl ?_
                        refine J_icmp_lt (pc1 := 390) (tgt := 394) (by omega) (by omega) (by omega) (by omega) dL_isRound_387 rfl rfl (fun hc12 => ?_) (fun hc12 => ?_)
                        · exact absurd hc12 (by omega)
                        · refine J_iconst (pc1 := 391) dL_isRound_390 rfl ?_
                          refine J_goto (tgt := 395) dL_isRound_391 rfl ?_
                          exact J_iret rfl rfl dL_isRound_395 (by omega) (by omega) (kIS_mk rfl h24)
            · refine J_aload_n (pc1 := 283) rfl (i := 0) rfl dL_isRound_282 rfl ?_
              refine J_iconst (pc1 := 284) dL_isRound_283 rfl ?_
              refine J_mX (pc1 := 287) gv_L_23 yv_X9_count h19 (m_cn (w := 4) (z := g.1 4 + 1) (by decide) (p4)) dL_isRound_284 rfl rfl rfl (by omega) (by decide) (by omega) (by omega) (Nat.le_of_ble_eq_true rfl) (fun S25 h25 => ?_)
              refine J_aload_n (pc1 := 288) rfl (i := 0) rfl dL_isRound_287 rfl ?_
              refine J_iconst (pc1 := 289) dL_isRound_288 rfl ?_
              refine J_mX (pc1 := 292) gv_L_23 yv_X9_count h25 (m_cn (w := 0) (z := g.1 0) (by decide) (p0)) dL_isRound_289 rfl rfl rfl (by omega) (by decide) (by omega) (by omega) (Nat.le_of_ble_eq_true rfl) (fun S26 h26 => ?_)
              refine J_ineg (pc1 := 293) dL_isRound_292 rfl ?_
              refine J_icmp_ne (pc1 := 296) (tgt := 300) (by omega) (by omega) (by omega) (by omega) dL_isRound_293 rfl rfl (fun hc13 => ?_) (fun hc13 => ?_)
              · refine J_iconst (pc1 := 301) dL_isRound_300 rfl ?_
                refine J_istore (pc1 := 303) (L1 := [some (.ref (A 0)), some (.int (iI b)), some (.int (iI a)), some (.int (iI (g.1 5))), some (.int (iI 0)), some (.int (iI (prF g.1 b a))), some (.int (iI (g.1 7))), some (.int (iI (g.1 8))), some (.int (iI (g.1 11))), some (.int (iI (g.1 13))), some (.int (iI (g.1 4))), some (.int (iI (g.1 6))), some (.int (iI (g.1 17))), some (.int (iI (g.1 15 + g.1 16))), some (.int (iI 0)), some (.int (iI 1)), some (.int (iI 0))]) dL_isRound_301 rfl (by decide) rfl rfl ?_
                refine J_iload (pc1 := 305) rfl dL_isRound_303 rfl ?_
                refine J_if_eq (pc1 := 308) (tgt := 394) (by decide) (by decide) dL_isRound_305 rfl rfl (fun hc14 => ?_) (fun hc14 => ?_)
                · exact absurd hc14 (by decide)
                · refine J_aload_n (pc1 := 309) rfl (i := 0) rfl dL_isRound_308 rfl ?_
                  refine J_bipush (pc1 := 311) (by decide) dL_isRound_309 rfl ?_
                  refine J_mX (pc1 := 314) gv_L_23 yv_X9_count h26 (m_cn (w := 9) (z := g.1 15 + g.1 16 + 0) (by decide) (cz9.trans (wn0_0 ok hw ht hc6).1)) dL_isRound_311 rfl rfl rfl (by omega) (by decide) (by omega) (by omega) (Nat.le_of_ble_eq_true rfl) (fun S27 h27 => ?_)
                  refine J_iload (pc1 := 316) rfl dL_isRound_314 rfl ?_
                  refine J_iload (pc1 := 318) rfl dL_isRound_316 rfl ?_
                  refine J_if_eq (pc1 := 321) (tgt := 325) (by decide) (by decide) dL_isRound_318 rfl rfl (fun hc15 => ?_) (fun hc15 => ?_)
                  · refine J_iconst (pc1 := 326) dL_isRound_325 rfl ?_
                    refine J_iadd (pc1 := 327) dL_isRound_326 rfl ?_
                    refine J_neS (pc1 := 330) (tgt := 394) dL_isRound_327 rfl rfl (by first | rfl | omega) ?_
                    refine J_aload_n (pc1 := 331) rfl (i := 0) rfl dL_isRound_330 rfl ?_
                    refine J_bipush (pc1 := 333) (by decide) dL_isRound_331 rfl ?_
                    refine J_mX (pc1 := 336) gv_L_23 yv_X9_count h27 (m_cn (w := 7) (z := (-1006)) (by decide) (cz7.trans (wn0_0 ok hw ht hc6).2)) dL_isRound_333 rfl rfl rfl (by omega) (by decide) (by omega) (by omega) (Nat.le_of_ble_eq_true rfl) (fun S28 h28 => ?_)
                    refine J_iload (pc1 := 338) rfl dL_isRound_336 rfl ?_
                    refine J_if_eq (pc1 := 341) (tgt := 346) (by decide) (by decide) dL_isRound_338 rfl rfl (fun hc16 => ?_) (fun hc16 => ?_)
                    · refine J_sipush (pc1 := 349) (by decide) dL_isRound_346 rfl ?_
                      refine J_icmp_ne (pc1 := 352) (tgt := 394) (by decide) (by decide) (by decide) (by decide) dL_isRound_349 rfl rfl (fun hc17 => ?_) (fun hc17 => ?_)
                      · exact absurd hc17 (by decide)
                      · refine J_aload_n (pc1 := 353) rfl (i := 0) rfl dL_isRound_352 rfl ?_
                        refine J_iconst (pc1 := 354) dL_isRound_353 rfl ?_
                        refine J_mX (pc1 := 357) gv_L_23 yv_X9_count h28 (m_cn (w := 5) (z := 1 - g.1 5) (by decide) ((cz5 (wn0_0 ok hw ht hc6).2).trans p5)) dL_isRound_354 rfl rfl rfl (by omega) (by decide) (by omega) (by omega) (Nat.le_of_ble_eq_true rfl) (fun S29 h29 => ?_)
                        refine J_iload (pc1 := 359) rfl dL_isRound_357 rfl ?_
                        refine J_if_eq (pc1 := 362) (tgt := 368) (by decide) (by decide) dL_isRound_359 rfl rfl (fun hc18 => ?_) (fun hc18 => ?_)
                        · refine J_iconst (pc1 := 369) dL_isRound_368 rfl ?_
                          refine J_iload_n (pc1 := 370) rfl (i := 3) rfl dL_isRound_369 rfl ?_
                          refine J_isub (pc1 := 371) dL_isRound_370 rfl ?_
                          refine J_neS (pc1 := 374) (tgt := 394) dL_isRound_371 rfl rfl (by first | rfl | omega) ?_
                          refine J_aload_n (pc1 := 375) rfl (i := 0) rfl dL_isRound_374 rfl ?_
                          refine J_iload (pc1 := 377) rfl dL_isRound_375 rfl ?_
                          refine J_iconst (pc1 := 378) dL_isRound_377 rfl ?_
                          refine J_mX (pc1 := 381) gv_L_37 yv_X9_player h29 (m_pl (p := 0) (w := 0) (z := g.1 7 - prF g.1 b a) (Or.inl rfl) (by decide) (p7)) dL_isRound_378 rfl rfl rfl (by omega) (by decide) (by omega) (by omega) (Nat.le_of_ble_eq_true rfl) (fun S30 h30 => ?_)
                          refine J_aload_n (pc1 := 382) rfl (i := 0) rfl dL_isRound_381 rfl ?_
                          refine J_iconst (pc1 := 383) dL_isRound_382 rfl ?_
                          refine J_mX (pc1 := 386) gv_L_23 yv_X9_count h30 (m_cn (w := 1) (z := g.1 1) (by decide) (p1)) dL_isRound_383 rfl rfl rfl (by omega) (by decide) (by omega) (by omega) (Nat.le_of_ble_eq_true rfl) (fun S31 h31 => ?_)
                          refine J_ineg (pc1 := 387) dL_isRound_386 rfl ?_
                          refine J_icmp_lt (pc1 := 390) (tgt := 394) (by omega) (by omega) (by omega) (by omega) dL_isRound_387 rfl rfl (fun hc19 => ?_) (fun hc19 => ?_)
                          · exact absurd hc19 (by omega)
                          · refine J_iconst (pc1 := 391) dL_isRound_390 rfl ?_
                            refine J_goto (tgt := 395) dL_isRound_391 rfl ?_
                            exact J_iret rfl rfl dL_isRound_395 (by omega) (by omega) (kIS_mk rfl h31)
                        · exact absurd hc18 (by decide)
                    · exact absurd hc16 (by decide)
                  · exact absurd hc15 (by decide)
              · exact absurd hc13 (by omega)
        · exact absurd hc4 (by decide)
      · exact absurd hc3 (by decide)
  · exact absurd hc1 (by decide)
set_option maxHeartbeats 2000000 in
set_option maxRecDepth 20000 in
theorem ir_01 {A : Nat → Nat} {g : GS} {tx : Int → Int} {L : Nat} {b a : Int} (hb : 0 ≤ b ∧ b ≤ 14) (ha : 0 ≤ a ∧ a ≤ 14) (hal : alF g.1 b a) (ht : tkF g.1 b a = 0) (hps : g.1 2 = 1) : ∀ S, XT S A g tx L → Jd yL_isRound cL_isRound 17 (some .boolean) 9 40 11800 (kIS 1 (fun T => XT T A (chg g (plF g.1 b a)) tx L)) 0 0 S 39 [some (.ref (A 0)), some (.int (iI b)), some (.int (iI a)), some (.int (iI (g.1 5))), some (.int (iI 0)), some (.int (iI (prF g.1 b a))), none, none, none, none, none, none, none, none, none, none, none] [] := by
  intro S hX
  have ok := hX.2.1.1
  have hw : winF g.1 = -1006 := hal.1
  have hv := win_o hw
  have hpb := pr_b ok ⟨hb.1, hal.2.1⟩ ⟨ha.1, hal.2.2⟩
  rw [ht] at hpb
  have hm : moF g.1 0 = g.1 7 + g.1 1 := rfl
  rw [hm] at hpb
  obtain ⟨o0, o1, o2, o3, o4, o5, o7, o9, o10, o12, o13, o18⟩ := id ok
  obtain ⟨p0, p1, p2, p3, p4, p5, p6, p7, p8, p9, p10, p11, p12, p13, p14, p15, p16, p17, p18⟩ := plF_at0 ht
  have hg : gaF g.1 (prF g.1 b a) = 0 := gaE1 hps
  have p8b : plF g.1 b a 8 = g.1 8 + 0 := by rw [p8, hg]
  have p17b : plF g.1 b a 17 = g.1 17 + prF g.1 b a := by rw [p17, hg]; omega
  refine J_aload_n (pc1 := 40) rfl (i := 0) rfl dL_isRound_39 rfl ?_
  refine J_iload (pc1 := 42) rfl dL_isRound_40 rfl ?_
  refine J_iconst (pc1 := 43) dL_isRound_42 rfl ?_
  refine J_mX (pc1 := 46) gv_L_37 yv_X9_player hX (m_pl (p := 0) (w := 0) (z := g.1 7) (Or.inl rfl) (by decide) (rfl)) dL_isRound_43 rfl rfl rfl (by omega) (by decide) (by omega) (by omega) (Nat.le_of_ble_eq_true rfl) (fun S1 h1 => ?_)
  refine J_istore (pc1 := 48) (L1 := [some (.ref (A 0)), some (.int (iI b)), some (.int (iI a)), some (.int (iI (g.1 5))), some (.int (iI 0)), some (.int (iI (prF g.1 b a))), some (.int (iI (g.1 7))), none, none, none, none, none, none, none, none, none, none]) dL_isRound_46 rfl (by decide) rfl rfl ?_
  refine J_aload_n (pc1 := 49) rfl (i := 0) rfl dL_isRound_48 rfl ?_
  refine J_iconst (pc1 := 50) dL_isRound_49 rfl ?_
  refine J_iload (pc1 := 52) rfl dL_isRound_50 rfl ?_
  refine J_isubE (pc1 := 53) (z := 1) (by decide) dL_isRound_52 rfl ?_
  refine J_iconst (pc1 := 54) dL_isRound_53 rfl ?_
  refine J_mX (pc1 := 57) gv_L_37 yv_X9_player h1 (m_pl (p := 1) (w := 0) (z := g.1 8) (Or.inr rfl) (by decide) (rfl)) dL_isRound_54 rfl rfl rfl (by omega) (by decide) (by omega) (by omega) (Nat.le_of_ble_eq_true rfl) (fun S2 h2 => ?_)
  refine J_istore (pc1 := 59) (L1 := [some (.ref (A 0)), some (.int (iI b)), some (.int (iI a)), some (.int (iI (g.1 5))), some (.int (iI 0)), some (.int (iI (prF g.1 b a))), some (.int (iI (g.1 7))), some (.int (iI (g.1 8))), none, none, none, none, none, none, none, none, none]) dL_isRound_57 rfl (by decide) rfl rfl ?_
  refine J_aload_n (pc1 := 60) rfl (i := 0) rfl dL_isRound_59 rfl ?_
  refine J_iload (pc1 := 62) rfl dL_isRound_60 rfl ?_
  refine J_iconst (pc1 := 63) dL_isRound_62 rfl ?_
  refine J_mX (pc1 := 66) gv_L_37 yv_X9_player h2 (m_pl (p := 0) (w := 3) (z := g.1 11) (Or.inl rfl) (by decide) (rfl)) dL_isRound_63 rfl rfl rfl (by omega) (by decide) (by omega) (by omega) (Nat.le_of_ble_eq_true rfl) (fun S3 h3 => ?_)
  refine J_istore (pc1 := 68) (L1 := [some (.ref (A 0)), some (.int (iI b)), some (.int (iI a)), some (.int (iI (g.1 5))), some (.int (iI 0)), some (.int (iI (prF g.1 b a))), some (.int (iI (g.1 7))), some (.int (iI (g.1 8))), some (.int (iI (g.1 11))), none, none, none, none, none, none, none, none]) dL_isRound_66 rfl (by decide) rfl rfl ?_
  refine J_aload_n (pc1 := 69) rfl (i := 0) rfl dL_isRound_68 rfl ?_
  refine J_iload (pc1 := 71) rfl dL_isRound_69 rfl ?_
  refine J_iconst (pc1 := 72) dL_isRound_71 rfl ?_
  refine J_mX (pc1 := 75) gv_L_37 yv_X9_player h3 (m_pl (p := 0) (w := 4) (z := g.1 13) (Or.inl rfl) (by decide) (rfl)) dL_isRound_72 rfl rfl rfl (by omega) (by decide) (by omega) (by omega) (Nat.le_of_ble_eq_true rfl) (fun S4 h4 => ?_)
  refine J_istore (pc1 := 77) (L1 := [some (.ref (A 0)), some (.int (iI b)), some (.int (iI a)), some (.int (iI (g.1 5))), some (.int (iI 0)), some (.int (iI (prF g.1 b a))), some (.int (iI (g.1 7))), some (.int (iI (g.1 8))), some (.int (iI (g.1 11))), some (.int (iI (g.1 13))), none, none, none, none, none, none, none]) dL_isRound_75 rfl (by decide) rfl rfl ?_
  refine J_aload_n (pc1 := 78) rfl (i := 0) rfl dL_isRound_77 rfl ?_
  refine J_iconst (pc1 := 79) dL_isRound_78 rfl ?_
  refine J_mX (pc1 := 82) gv_L_23 yv_X9_count h4 (m_cn (w := 4) (z := g.1 4) (by decide) (rfl)) dL_isRound_79 rfl rfl rfl (by omega) (by decide) (by omega) (by omega) (Nat.le_of_ble_eq_true rfl) (fun S5 h5 => ?_)
  refine J_istore (pc1 := 84) (L1 := [some (.ref (A 0)), some (.int (iI b)), some (.int (iI a)), some (.int (iI (g.1 5))), some (.int (iI 0)), some (.int (iI (prF g.1 b a))), some (.int (iI (g.1 7))), some (.int (iI (g.1 8))), some (.int (iI (g.1 11))), some (.int (iI (g.1 13))), some (.int (iI (g.1 4))), none, none, none, none, none, none]) dL_isRound_82 rfl (by decide) rfl rfl ?_
  refine J_aload_n (pc1 := 85) rfl (i := 0) rfl dL_isRound_84 rfl ?_
  refine J_bipush (pc1 := 87) (by decide) dL_isRound_85 rfl ?_
  refine J_mX (pc1 := 90) gv_L_23 yv_X9_count h5 (m_cn (w := 6) (z := g.1 6) (by decide) (rfl)) dL_isRound_87 rfl rfl rfl (by omega) (by decide) (by omega) (by omega) (Nat.le_of_ble_eq_true rfl) (fun S6 h6 => ?_)
  refine J_istore (pc1 := 92) (L1 := [some (.ref (A 0)), some (.int (iI b)), some (.int (iI a)), some (.int (iI (g.1 5))), some (.int (iI 0)), some (.int (iI (prF g.1 b a))), some (.int (iI (g.1 7))), some (.int (iI (g.1 8))), some (.int (iI (g.1 11))), some (.int (iI (g.1 13))), some (.int (iI (g.1 4))), some (.int (iI (g.1 6))), none, none, none, none, none]) dL_isRound_90 rfl (by decide) rfl rfl ?_
  refine J_aload_n (pc1 := 93) rfl (i := 0) rfl dL_isRound_92 rfl ?_
  refine J_bipush (pc1 := 95) (by decide) dL_isRound_93 rfl ?_
  refine J_mX (pc1 := 98) gv_L_23 yv_X9_count h6 (m_cn (w := 8) (z := g.1 17) (by decide) (rfl)) dL_isRound_95 rfl rfl rfl (by omega) (by decide) (by omega) (by omega) (Nat.le_of_ble_eq_true rfl) (fun S7 h7 => ?_)
  refine J_istore (pc1 := 100) (L1 := [some (.ref (A 0)), some (.int (iI b)), some (.int (iI a)), some (.int (iI (g.1 5))), some (.int (iI 0)), some (.int (iI (prF g.1 b a))), some (.int (iI (g.1 7))), some (.int (iI (g.1 8))), some (.int (iI (g.1 11))), some (.int (iI (g.1 13))), some (.int (iI (g.1 4))), some (.int (iI (g.1 6))), some (.int (iI (g.1 17))), none, none, none, none]) dL_isRound_98 rfl (by decide) rfl rfl ?_
  refine J_aload_n (pc1 := 101) rfl (i := 0) rfl dL_isRound_100 rfl ?_
  refine J_bipush (pc1 := 103) (by decide) dL_isRound_101 rfl ?_
  refine J_mX (pc1 := 106) gv_L_23 yv_X9_count h7 (m_cn (w := 9) (z := g.1 15 + g.1 16) (by decide) (rfl)) dL_isRound_103 rfl rfl rfl (by omega) (by decide) (by omega) (by omega) (Nat.le_of_ble_eq_true rfl) (fun S8 h8 => ?_)
  refine J_istore (pc1 := 108) (L1 := [some (.ref (A 0)), some (.int (iI b)), some (.int (iI a)), some (.int (iI (g.1 5))), some (.int (iI 0)), some (.int (iI (prF g.1 b a))), some (.int (iI (g.1 7))), some (.int (iI (g.1 8))), some (.int (iI (g.1 11))), some (.int (iI (g.1 13))), some (.int (iI (g.1 4))), some (.int (iI (g.1 6))), some (.int (iI (g.1 17))), some (.int (iI (g.1 15 + g.1 16))), none, none, none]) dL_isRound_106 rfl (by decide) rfl rfl ?_
  refine J_aload_n (pc1 := 109) rfl (i := 0) rfl dL_isRound_108 rfl ?_
  refine J_iconst (pc1 := 110) dL_isRound_109 rfl ?_
  refine J_mX (pc1 := 113) gv_L_23 yv_X9_count h8 (m_cn (w := 2) (z := 1) (by decide) (cz2.trans hps)) dL_isRound_110 rfl rfl rfl (by omega) (by decide) (by omega) (by omega) (Nat.le_of_ble_eq_true rfl) (fun S9 h9 => ?_)
  refine J_iconst (pc1 := 114) dL_isRound_113 rfl ?_
  refine J_icmp_ne (pc1 := 117) (tgt := 121) (by decide) (by decide) (by decide) (by decide) dL_isRound_114 rfl rfl (fun hc1 => ?_) (fun hc1 => ?_)
  · exact absurd hc1 (by decide)
  · refine J_iconst (pc1 := 118) dL_isRound_117 rfl ?_
    refine J_goto (tgt := 122) dL_isRound_118 rfl ?_
    refine J_istore (pc1 := 124) (L1 := [some (.ref (A 0)), some (.int (iI b)), some (.int (iI a)), some (.int (iI (g.1 5))), some (.int (iI 0)), some (.int (iI (prF g.1 b a))), some (.int (iI (g.1 7))), some (.int (iI (g.1 8))), some (.int (iI (g.1 11))), some (.int (iI (g.1 13))), some (.int (iI (g.1 4))), some (.int (iI (g.1 6))), some (.int (iI (g.1 17))), some (.int (iI (g.1 15 + g.1 16))), some (.int (iI 1)), none, none]) dL_isRound_122 rfl (by decide) rfl rfl ?_
    refine J_aload_n (pc1 := 125) rfl (i := 0) rfl dL_isRound_124 rfl ?_
    refine J_iload_n (pc1 := 126) rfl (i := 1) rfl dL_isRound_125 rfl ?_
    refine J_iload_n (pc1 := 127) rfl (i := 2) rfl dL_isRound_126 rfl ?_
    refine J_mX (pc1 := 130) gv_L_56 yv_X9_round h9 (m_roundZ hb ha hal ht) dL_isRound_127 rfl rfl rfl (by omega) (by decide) (by omega) (by omega) (Nat.le_of_ble_eq_true rfl) (fun S10 h10 => ?_)
    refine J_iload (pc1 := 132) rfl dL_isRound_130 rfl ?_
    refine J_icmp_ne (pc1 := 135) (tgt := 266) (by decide) (by decide) (by decide) (by decide) dL_isRound_132 rfl rfl (fun hc2 => ?_) (fun hc2 => ?_)
    · exact absurd hc2 (by decide)
    · refine J_aload_n (pc1 := 136) rfl (i := 0) rfl dL_isRound_135 rfl ?_
      refine J_iload (pc1 := 138) rfl dL_isRound_136 rfl ?_
      refine J_iconst (pc1 := 139) dL_isRound_138 rfl ?_
      refine J_mX (pc1 := 142) gv_L_37 yv_X9_player h10 (m_pl (p := 0) (w := 0) (z := g.1 7 - prF g.1 b a) (Or.inl rfl) (by decide) (p7)) dL_isRound_139 rfl rfl rfl (by omega) (by decide) (by omega) (by omega) (Nat.le_of_ble_eq_true rfl) (fun S11 h11 => ?_)
      refine J_iload (pc1 := 144) rfl dL_isRound_142 rfl ?_
      refine J_iload (pc1 := 146) rfl dL_isRound_144 rfl ?_
      refine J_isub (pc1 := 147) dL_isRound_146 rfl ?_
      refine J_neS (pc1 := 150) (tgt := 266) dL_isRound_147 rfl rfl (by first | rfl | omega) ?_
      refine J_aload_n (pc1 := 151) rfl (i := 0) rfl dL_isRound_150 rfl ?_
      refine J_iconst (pc1 := 152) dL_isRound_151 rfl ?_
      refine J_iload (pc1 := 154) rfl dL_isRound_152 rfl ?_
      refine J_isubE (pc1 := 155) (z := 1) (by decide) dL_isRound_154 rfl ?_
      refine J_iconst (pc1 := 156) dL_isRound_155 rfl ?_
      refine J_mX (pc1 := 159) gv_L_37 yv_X9_player h11 (m_pl (p := 1) (w := 0) (z := g.1 8 + 0) (Or.inr rfl) (by decide) (p8b)) dL_isRound_156 rfl rfl rfl (by omega) (by decide) (by omega) (by omega) (Nat.le_of_ble_eq_true rfl) (fun S12 h12 => ?_)
      refine J_iload (pc1 := 161) rfl dL_isRound_159 rfl ?_
      refine J_iload (pc1 := 163) rfl dL_isRound_161 rfl ?_
      refine J_if_eq (pc1 := 166) (tgt := 170) (by decide) (by decide) dL_isRound_163 rfl rfl (fun hc3 => ?_) (fun hc3 => ?_)
      · exact absurd hc3 (by decide)
      · refine J_iconst (pc1 := 167) dL_isRound_166 rfl ?_
        refine J_goto (tgt := 172) dL_isRound_167 rfl ?_
        refine J_iadd (pc1 := 173) dL_isRound_172 rfl ?_
        refine J_neS (pc1 := 176) (tgt := 266) dL_isRound_173 rfl rfl (by first | rfl | omega) ?_
        refine J_aload_n (pc1 := 177) rfl (i := 0) rfl dL_isRound_176 rfl ?_
        refine J_bipush (pc1 := 179) (by decide) dL_isRound_177 rfl ?_
        refine J_mX (pc1 := 182) gv_L_23 yv_X9_count h12 (m_cn (w := 8) (z := g.1 17 + prF g.1 b a) (by decide) ((by rw [cz8]; exact p17b))) dL_isRound_179 rfl rfl rfl (by omega) (by decide) (by omega) (by omega) (Nat.le_of_ble_eq_true rfl) (fun S13 h13 => ?_)
        refine J_iload (pc1 := 184) rfl dL_isRound_182 rfl ?_
        refine J_iload (pc1 := 186) rfl dL_isRound_184 rfl ?_
        refine J_if_eq (pc1 := 189) (tgt := 194) (by decide) (by decide) dL_isRound_186 rfl rfl (fun hc4 => ?_) (fun hc4 => ?_)
        · exact absurd hc4 (by decide)
        · refine J_iload (pc1 := 191) rfl dL_isRound_189 rfl ?_
          refine J_goto (tgt := 195) dL_isRound_191 rfl ?_
          refine J_iadd (pc1 := 196) dL_isRound_195 rfl ?_
          refine J_neS (pc1 := 199) (tgt := 266) dL_isRound_196 rfl rfl (by first | rfl | omega) ?_
          refine J_aload_n (pc1 := 200) rfl (i := 0) rfl dL_isRound_199 rfl ?_
          refine J_iload (pc1 := 202) rfl dL_isRound_200 rfl ?_
          refine J_iconst (pc1 := 203) dL_isRound_202 rfl ?_
          refine J_mX (pc1 := 206) gv_L_37 yv_X9_player h13 (m_pl (p := 0) (w := 3) (z := g.1 11 + prF g.1 b a) (Or.inl rfl) (by decide) (p11)) dL_isRound_203 rfl rfl rfl (by omega) (by decide) (by omega) (by omega) (Nat.le_of_ble_eq_true rfl) (fun S14 h14 => ?_)
          refine J_iload (pc1 := 208) rfl dL_isRound_206 rfl ?_
          refine J_iload (pc1 := 210) rfl dL_isRound_208 rfl ?_
          refine J_iadd (pc1 := 211) dL_isRound_210 rfl ?_
          refine J_neS (pc1 := 214) (tgt := 266) dL_isRound_211 rfl rfl (by first | rfl | omega) ?_
          refine J_aload_n (pc1 := 215) rfl (i := 0) rfl dL_isRound_214 rfl ?_
          refine J_iload (pc1 := 217) rfl dL_isRound_215 rfl ?_
          refine J_iconst (pc1 := 218) dL_isRound_217 rfl ?_
          refine J_mX (pc1 := 221) gv_L_37 yv_X9_player h14 (m_pl (p := 0) (w := 4) (z := g.1 13 + 1) (Or.inl rfl) (by decide) (p13)) dL_isRound_218 rfl rfl rfl (by omega) (by decide) (by omega) (by omega) (Nat.le_of_ble_eq_true rfl) (fun S15 h15 => ?_)
          refine J_iload (pc1 := 223) rfl dL_isRound_221 rfl ?_
          refine J_iconst (pc1 := 224) dL_isRound_223 rfl ?_
          refine J_iadd (pc1 := 225) dL_isRound_224 rfl ?_
          refine J_neS (pc1 := 228) (tgt := 266) dL_isRound_225 rfl rfl (by first | rfl | omega) ?_
          refine J_aload_n (pc1 := 229) rfl (i := 0) rfl dL_isRound_228 rfl ?_
          refine J_iconst (pc1 := 230) dL_isRound_229 rfl ?_
          refine J_mX (pc1 := 233) gv_L_23 yv_X9_count h15 (m_cn (w := 4) (z := g.1 4 + 1) (by decide) (p4)) dL_isRound_230 rfl rfl rfl (by omega) (by decide) (by omega) (by omega) (Nat.le_of_ble_eq_true rfl) (fun S16 h16 => ?_)
          refine J_iload (pc1 := 235) rfl dL_isRound_233 rfl ?_
          refine J_iload (pc1 := 237) rfl dL_isRound_235 rfl ?_
          refine J_if_ne (pc1 := 240) (tgt := 244) (by decide) (by decide) dL_isRound_237 rfl rfl (fun hc5 => ?_) (fun hc5 => ?_)
          · exact absurd hc5 (by decide)
          · refine J_iconst (pc1 := 241) dL_isRound_240 rfl ?_
            refine J_goto (tgt := 245) dL_isRound_241 rfl ?_
            refine J_iadd (pc1 := 246) dL_isRound_245 rfl ?_
            refine J_neS (pc1 := 249) (tgt := 266) dL_isRound_246 rfl rfl (by first | rfl | omega) ?_
            refine J_aload_n (pc1 := 250) rfl (i := 0) rfl dL_isRound_249 rfl ?_
            refine J_bipush (pc1 := 252) (by decide) dL_isRound_250 rfl ?_
            refine J_mX (pc1 := 255) gv_L_23 yv_X9_count h16 (m_cn (w := 6) (z := g.1 6 + 1) (by decide) (p6)) dL_isRound_252 rfl rfl rfl (by omega) (by decide) (by omega) (by omega) (Nat.le_of_ble_eq_true rfl) (fun S17 h17 => ?_)
            refine J_iload (pc1 := 257) rfl dL_isRound_255 rfl ?_
            refine J_iconst (pc1 := 258) dL_isRound_257 rfl ?_
            refine J_iadd (pc1 := 259) dL_isRound_258 rfl ?_
            refine J_neS (pc1 := 262) (tgt := 266) dL_isRound_259 rfl rfl (by first | rfl | omega) ?_
            refine J_iconst (pc1 := 263) dL_isRound_262 rfl ?_
            refine J_goto (tgt := 267) dL_isRound_263 rfl ?_
            refine J_istore (pc1 := 269) (L1 := [some (.ref (A 0)), some (.int (iI b)), some (.int (iI a)), some (.int (iI (g.1 5))), some (.int (iI 0)), some (.int (iI (prF g.1 b a))), some (.int (iI (g.1 7))), some (.int (iI (g.1 8))), some (.int (iI (g.1 11))), some (.int (iI (g.1 13))), some (.int (iI (g.1 4))), some (.int (iI (g.1 6))), some (.int (iI (g.1 17))), some (.int (iI (g.1 15 + g.1 16))), some (.int (iI 1)), some (.int (iI 1)), none]) dL_isRound_267 rfl (by decide) rfl rfl ?_
            refine J_aload_n (pc1 := 270) rfl (i := 0) rfl dL_isRound_269 rfl ?_
            refine J_iconst (pc1 := 271) dL_isRound_270 rfl ?_
            refine J_mX (pc1 := 274) gv_L_23 yv_X9_count h17 (m_cn (w := 4) (z := g.1 4 + 1) (by decide) (p4)) dL_isRound_271 rfl rfl rfl (by omega) (by decide) (by omega) (by omega) (Nat.le_of_ble_eq_true rfl) (fun S18 h18 => ?_)
            refine J_aload_n (pc1 := 275) rfl (i := 0) rfl dL_isRound_274 rfl ?_
            refine J_iconst (pc1 := 276) dL_isRound_275 rfl ?_
            refine J_mX (pc1 := 279) gv_L_23 yv_X9_count h18 (m_cn (w := 0) (z := g.1 0) (by decide) (p0)) dL_isRound_276 rfl rfl rfl (by omega) (by decide) (by omega) (by omega) (Nat.le_of_ble_eq_true rfl) (fun S19 h19 => ?_)
            refine J_icmp_eq (pc1 := 282) (tgt := 296) (by omega) (by omega) (by omega) (by omega) dL_isRound_279 rfl rfl (fun hc6 => ?_) (fun hc6 => ?_)
            · refine J_iconst (pc1 := 297) dL_isRound_296 rfl ?_
              refine J_goto (tgt := 301) dL_isRound_297 rfl ?_
              refine J_istore (pc1 := 303) (L1 := [some (.ref (A 0)), some (.int (iI b)), some (.int (iI a)), some (.int (iI (g.1 5))), some (.int (iI 0)), some (.int (iI (prF g.1 b a))), some (.int (iI (g.1 7))), some (.int (iI (g.1 8))), some (.int (iI (g.1 11))), some (.int (iI (g.1 13))), some (.int (iI (g.1 4))), some (.int (iI (g.1 6))), some (.int (iI (g.1 17))), some (.int (iI (g.1 15 + g.1 16))), some (.int (iI 1)), some (.int (iI 1)), some (.int (iI 1))]) dL_isRound_301 rfl (by decide) rfl rfl ?_
              refine J_iload (pc1 := 305) rfl dL_isRound_303 rfl ?_
              refine J_if_eq (pc1 := 308) (tgt := 394) (by decide) (by decide) dL_isRound_305 rfl rfl (fun hc7 => ?_) (fun hc7 => ?_)
              · exact absurd hc7 (by decide)
              · refine J_aload_n (pc1 := 309) rfl (i := 0) rfl dL_isRound_308 rfl ?_
                refine J_bipush (pc1 := 311) (by decide) dL_isRound_309 rfl ?_
                refine J_mX (pc1 := 314) gv_L_23 yv_X9_count h19 (m_cn (w := 9) (z := g.1 15 + g.1 16 + 1) (by decide) (cz9.trans (wn0_1 ok ht hc6).1)) dL_isRound_311 rfl rfl rfl (by omega) (by decide) (by omega) (by omega) (Nat.le_of_ble_eq_true rfl) (fun S20 h20 => ?_)
                refine J_iload (pc1 := 316) rfl dL_isRound_314 rfl ?_
                refine J_iload (pc1 := 318) rfl dL_isRound_316 rfl ?_
                refine J_if_eq (pc1 := 321) (tgt := 325) (by decide) (by decide) dL_isRound_318 rfl rfl (fun hc8 => ?_) (fun hc8 => ?_)
                · exact absurd hc8 (by decide)
                · refine J_iconst (pc1 := 322) dL_isRound_321 rfl ?_
                  refine J_goto (tgt := 326) dL_isRound_322 rfl ?_
                  refine J_iadd (pc1 := 327) dL_isRound_326 rfl ?_
                  refine J_neS (pc1 := 330) (tgt := 394) dL_isRound_327 rfl rfl (by first | rfl | omega) ?_
                  refine J_aload_n (pc1 := 331) rfl (i := 0) rfl dL_isRound_330 rfl ?_
                  refine J_bipush (pc1 := 333) (by decide) dL_isRound_331 rfl ?_
                  refine J_mX (pc1 := 336) gv_L_23 yv_X9_count h20 (m_cn (w := 7) (z := 0) (by decide) (cz7.trans (wn0_1 ok ht hc6).2)) dL_isRound_333 rfl rfl rfl (by omega) (by decide) (by omega) (by omega) (Nat.le_of_ble_eq_true rfl) (fun S21 h21 => ?_)
                  refine J_iload (pc1 := 338) rfl dL_isRound_336 rfl ?_
                  refine J_if_eq (pc1 := 341) (tgt := 346) (by decide) (by decide) dL_isRound_338 rfl rfl (fun hc9 => ?_) (fun hc9 => ?_)
                  · exact absurd hc9 (by decide)
                  · refine J_iload (pc1 := 343) rfl dL_isRound_341 rfl ?_
                    refine J_goto (tgt := 349) dL_isRound_343 rfl ?_
                    refine J_icmp_ne (pc1 := 352) (tgt := 394) (by decide) (by decide) (by decide) (by decide) dL_isRound_349 rfl rfl (fun hc10 => ?_) (fun hc10 => ?_)
                    · exact absurd hc10 (by decide)
                    · refine J_aload_n (pc1 := 353) rfl (i := 0) rfl dL_isRound_352 rfl ?_
                      refine J_iconst (pc1 := 354) dL_isRound_353 rfl ?_
                      refine J_mX (pc1 := 357) gv_L_23 yv_X9_count h21 (m_cn (w := 5) (z := (-1006)) (by decide) (cz5x (by rw [(wn0_1 ok ht hc6).2]; decide))) dL_isRound_354 rfl rfl rfl (by omega) (by decide) (by omega) (by omega) (Nat.le_of_ble_eq_true rfl) (fun S22 h22 => ?_)
                      refine J_iload (pc1 := 359) rfl dL_isRound_357 rfl ?_
                      refine J_if_eq (pc1 := 362) (tgt := 368) (by decide) (by decide) dL_isRound_359 rfl rfl (fun hc11 => ?_) (fun hc11 => ?_)
                      · exact absurd hc11 (by decide)
                      · refine J_sipush (pc1 := 365) (by decide) dL_isRound_362 rfl ?_
                        refine J_goto (tgt := 371) dL_isRound_365 rfl ?_
                        refine J_neS (pc1 := 374) (tgt := 394) dL_isRound_371 rfl rfl (by first | rfl | omega) ?_
                        refine J_aload_n (pc1 := 375) rfl (i := 0) rfl dL_isRound_374 rfl ?_
                        refine J_iload (pc1 := 377) rfl dL_isRound_375 rfl ?_
                        refine J_iconst (pc1 := 378) dL_isRound_377 rfl ?_
                        refine J_mX (pc1 := 381) gv_L_37 yv_X9_player h22 (m_pl (p := 0) (w := 0) (z := g.1 7 - prF g.1 b a) (Or.inl rfl) (by decide) (p7)) dL_isRound_378 rfl rfl rfl (by omega) (by decide) (by omega) (by omega) (Nat.le_of_ble_eq_true rfl) (fun S23 h23 => ?_)
                        refine J_aload_n (pc1 := 382) rfl (i := 0) rfl dL_isRound_381 rfl ?_
                        refine J_iconst (pc1 := 383) dL_isRound_382 rfl ?_
                        refine J_mX (pc1 := 386) gv_L_23 yv_X9_count h23 (m_cn (w := 1) (z := g.1 1) (by decide) (p1)) dL_isRound_383 rfl rfl rfl (by omega) (by decide) (by omega) (by omega) (Nat.le_of_ble_eq_true rfl) (fun S24 h24 => ?_)
                        refine J_ineg (pc1 := 387) dL_isRound_386 rfl ?_
                        refine J_icmp_lt (pc1 := 390) (tgt := 394) (by omega) (by omega) (by omega) (by omega) dL_isRound_387 rfl rfl (fun hc12 => ?_) (fun hc12 => ?_)
                        · exact absurd hc12 (by omega)
                        · refine J_iconst (pc1 := 391) dL_isRound_390 rfl ?_
                          refine J_goto (tgt := 395) dL_isRound_391 rfl ?_
                          exact J_iret rfl rfl dL_isRound_395 (by omega) (by omega) (kIS_mk rfl h24)
            · refine J_aload_n (pc1 := 283) rfl (i := 0) rfl dL_isRound_282 rfl ?_
              refine J_iconst (pc1 := 284) dL_isRound_283 rfl ?_
              refine J_mX (pc1 := 287) gv_L_23 yv_X9_count h19 (m_cn (w := 4) (z := g.1 4 + 1) (by decide) (p4)) dL_isRound_284 rfl rfl rfl (by omega) (by decide) (by omega) (by omega) (Nat.le_of_ble_eq_true rfl) (fun S25 h25 => ?_)
              refine J_aload_n (pc1 := 288) rfl (i := 0) rfl dL_isRound_287 rfl ?_
              refine J_iconst (pc1 := 289) dL_isRound_288 rfl ?_
              refine J_mX (pc1 := 292) gv_L_23 yv_X9_count h25 (m_cn (w := 0) (z := g.1 0) (by decide) (p0)) dL_isRound_289 rfl rfl rfl (by omega) (by decide) (by omega) (by omega) (Nat.le_of_ble_eq_true rfl) (fun S26 h26 => ?_)
              refine J_ineg (pc1 := 293) dL_isRound_292 rfl ?_
              refine J_icmp_ne (pc1 := 296) (tgt := 300) (by omega) (by omega) (by omega) (by omega) dL_isRound_293 rfl rfl (fun hc13 => ?_) (fun hc13 => ?_)
              · refine J_iconst (pc1 := 301) dL_isRound_300 rfl ?_
                refine J_istore (pc1 := 303) (L1 := [some (.ref (A 0)), some (.int (iI b)), some (.int (iI a)), some (.int (iI (g.1 5))), some (.int (iI 0)), some (.int (iI (prF g.1 b a))), some (.int (iI (g.1 7))), some (.int (iI (g.1 8))), some (.int (iI (g.1 11))), some (.int (iI (g.1 13))), some (.int (iI (g.1 4))), some (.int (iI (g.1 6))), some (.int (iI (g.1 17))), some (.int (iI (g.1 15 + g.1 16))), some (.int (iI 1)), some (.int (iI 1)), some (.int (iI 0))]) dL_isRound_301 rfl (by decide) rfl rfl ?_
                refine J_iload (pc1 := 305) rfl dL_isRound_303 rfl ?_
                refine J_if_eq (pc1 := 308) (tgt := 394) (by decide) (by decide) dL_isRound_305 rfl rfl (fun hc14 => ?_) (fun hc14 => ?_)
                · exact absurd hc14 (by decide)
                · refine J_aload_n (pc1 := 309) rfl (i := 0) rfl dL_isRound_308 rfl ?_
                  refine J_bipush (pc1 := 311) (by decide) dL_isRound_309 rfl ?_
                  refine J_mX (pc1 := 314) gv_L_23 yv_X9_count h26 (m_cn (w := 9) (z := g.1 15 + g.1 16 + 0) (by decide) (cz9.trans (wn0_0 ok hw ht hc6).1)) dL_isRound_311 rfl rfl rfl (by omega) (by decide) (by omega) (by omega) (Nat.le_of_ble_eq_true rfl) (fun S27 h27 => ?_)
                  refine J_iload (pc1 := 316) rfl dL_isRound_314 rfl ?_
                  refine J_iload (pc1 := 318) rfl dL_isRound_316 rfl ?_
                  refine J_if_eq (pc1 := 321) (tgt := 325) (by decide) (by decide) dL_isRound_318 rfl rfl (fun hc15 => ?_) (fun hc15 => ?_)
                  · refine J_iconst (pc1 := 326) dL_isRound_325 rfl ?_
                    refine J_iadd (pc1 := 327) dL_isRound_326 rfl ?_
                    refine J_neS (pc1 := 330) (tgt := 394) dL_isRound_327 rfl rfl (by first | rfl | omega) ?_
                    refine J_aload_n (pc1 := 331) rfl (i := 0) rfl dL_isRound_330 rfl ?_
                    refine J_bipush (pc1 := 333) (by decide) dL_isRound_331 rfl ?_
                    refine J_mX (pc1 := 336) gv_L_23 yv_X9_count h27 (m_cn (w := 7) (z := (-1006)) (by decide) (cz7.trans (wn0_0 ok hw ht hc6).2)) dL_isRound_333 rfl rfl rfl (by omega) (by decide) (by omega) (by omega) (Nat.le_of_ble_eq_true rfl) (fun S28 h28 => ?_)
                    refine J_iload (pc1 := 338) rfl dL_isRound_336 rfl ?_
                    refine J_if_eq (pc1 := 341) (tgt := 346) (by decide) (by decide) dL_isRound_338 rfl rfl (fun hc16 => ?_) (fun hc16 => ?_)
                    · refine J_sipush (pc1 := 349) (by decide) dL_isRound_346 rfl ?_
                      refine J_icmp_ne (pc1 := 352) (tgt := 394) (by decide) (by decide) (by decide) (by decide) dL_isRound_349 rfl rfl (fun hc17 => ?_) (fun hc17 => ?_)
                      · exact absurd hc17 (by decide)
                      · refine J_aload_n (pc1 := 353) rfl (i := 0) rfl dL_isRound_352 rfl ?_
                        refine J_iconst (pc1 := 354) dL_isRound_353 rfl ?_
                        refine J_mX (pc1 := 357) gv_L_23 yv_X9_count h28 (m_cn (w := 5) (z := 1 - g.1 5) (by decide) ((cz5 (wn0_0 ok hw ht hc6).2).trans p5)) dL_isRound_354 rfl rfl rfl (by omega) (by decide) (by omega) (by omega) (Nat.le_of_ble_eq_true rfl) (fun S29 h29 => ?_)
                        refine J_iload (pc1 := 359) rfl dL_isRound_357 rfl ?_
                        refine J_if_eq (pc1 := 362) (tgt := 368) (by decide) (by decide) dL_isRound_359 rfl rfl (fun hc18 => ?_) (fun hc18 => ?_)
                        · refine J_iconst (pc1 := 369) dL_isRound_368 rfl ?_
                          refine J_iload_n (pc1 := 370) rfl (i := 3) rfl dL_isRound_369 rfl ?_
                          refine J_isub (pc1 := 371) dL_isRound_370 rfl ?_
                          refine J_neS (pc1 := 374) (tgt := 394) dL_isRound_371 rfl rfl (by first | rfl | omega) ?_
                          refine J_aload_n (pc1 := 375) rfl (i := 0) rfl dL_isRound_374 rfl ?_
                          refine J_iload (pc1 := 377) rfl dL_isRound_375 rfl ?_
                          refine J_iconst (pc1 := 378) dL_isRound_377 rfl ?_
                          refine J_mX (pc1 := 381) gv_L_37 yv_X9_player h29 (m_pl (p := 0) (w := 0) (z := g.1 7 - prF g.1 b a) (Or.inl rfl) (by decide) (p7)) dL_isRound_378 rfl rfl rfl (by omega) (by decide) (by omega) (by omega) (Nat.le_of_ble_eq_true rfl) (fun S30 h30 => ?_)
                          refine J_aload_n (pc1 := 382) rfl (i := 0) rfl dL_isRound_381 rfl ?_
                          refine J_iconst (pc1 := 383) dL_isRound_382 rfl ?_
                          refine J_mX (pc1 := 386) gv_L_23 yv_X9_count h30 (m_cn (w := 1) (z := g.1 1) (by decide) (p1)) dL_isRound_383 rfl rfl rfl (by omega) (by decide) (by omega) (by omega) (Nat.le_of_ble_eq_true rfl) (fun S31 h31 => ?_)
                          refine J_ineg (pc1 := 387) dL_isRound_386 rfl ?_
                          refine J_icmp_lt (pc1 := 390) (tgt := 394) (by omega) (by omega) (by omega) (by omega) dL_isRound_387 rfl rfl (fun hc19 => ?_) (fun hc19 => ?_)
                          · exact absurd hc19 (by omega)
                          · refine J_iconst (pc1 := 391) dL_isRound_390 rfl ?_
                            refine J_goto (tgt := 395) dL_isRound_391 rfl ?_
                            exact J_iret rfl rfl dL_isRound_395 (by omega) (by omega) (kIS_mk rfl h31)
                        · exact absurd hc18 (by decide)
                    · exact absurd hc16 (by decide)
                  · exact absurd hc15 (by decide)
              · exact absurd hc13 (by omega)
set_option maxHeartbeats 2000000 in
set_option maxRecDepth 20000 in
theorem ir_10 {A : Nat → Nat} {g : GS} {tx : Int → Int} {L : Nat} {b a : Int} (hb : 0 ≤ b ∧ b ≤ 14) (ha : 0 ≤ a ∧ a ≤ 14) (hal : alF g.1 b a) (ht : tkF g.1 b a = 1) (hps : g.1 2 = 0) : ∀ S, XT S A g tx L → Jd yL_isRound cL_isRound 17 (some .boolean) 9 40 11800 (kIS 1 (fun T => XT T A (chg g (plF g.1 b a)) tx L)) 0 0 S 39 [some (.ref (A 0)), some (.int (iI b)), some (.int (iI a)), some (.int (iI (g.1 5))), some (.int (iI 1)), some (.int (iI (prF g.1 b a))), none, none, none, none, none, none, none, none, none, none, none] [] := by
  intro S hX
  have ok := hX.2.1.1
  have hw : winF g.1 = -1006 := hal.1
  have hv := win_o hw
  have hpb := pr_b ok ⟨hb.1, hal.2.1⟩ ⟨ha.1, hal.2.2⟩
  rw [ht] at hpb
  have hm : moF g.1 1 = g.1 8 + g.1 1 := rfl
  rw [hm] at hpb
  obtain ⟨o0, o1, o2, o3, o4, o5, o7, o9, o10, o12, o13, o18⟩ := id ok
  obtain ⟨p0, p1, p2, p3, p4, p5, p6, p7, p8, p9, p10, p11, p12, p13, p14, p15, p16, p17, p18⟩ := plF_at1 ht
  have hg : gaF g.1 (prF g.1 b a) = prF g.1 b a := gaE0 hps
  have p7b : plF g.1 b a 7 = g.1 7 + prF g.1 b a := by rw [p7, hg]
  have p17b : plF g.1 b a 17 = g.1 17 + 0 := by rw [p17, hg]; omega
  refine J_aload_n (pc1 := 40) rfl (i := 0) rfl dL_isRound_39 rfl ?_
  refine J_iload (pc1 := 42) rfl dL_isRound_40 rfl ?_
  refine J_iconst (pc1 := 43) dL_isRound_42 rfl ?_
  refine J_mX (pc1 := 46) gv_L_37 yv_X9_player hX (m_pl (p := 1) (w := 0) (z := g.1 8) (Or.inr rfl) (by decide) (rfl)) dL_isRound_43 rfl rfl rfl (by omega) (by decide) (by omega) (by omega) (Nat.le_of_ble_eq_true rfl) (fun S1 h1 => ?_)
  refine J_istore (pc1 := 48) (L1 := [some (.ref (A 0)), some (.int (iI b)), some (.int (iI a)), some (.int (iI (g.1 5))), some (.int (iI 1)), some (.int (iI (prF g.1 b a))), some (.int (iI (g.1 8))), none, none, none, none, none, none, none, none, none, none]) dL_isRound_46 rfl (by decide) rfl rfl ?_
  refine J_aload_n (pc1 := 49) rfl (i := 0) rfl dL_isRound_48 rfl ?_
  refine J_iconst (pc1 := 50) dL_isRound_49 rfl ?_
  refine J_iload (pc1 := 52) rfl dL_isRound_50 rfl ?_
  refine J_isubE (pc1 := 53) (z := 0) (by decide) dL_isRound_52 rfl ?_
  refine J_iconst (pc1 := 54) dL_isRound_53 rfl ?_
  refine J_mX (pc1 := 57) gv_L_37 yv_X9_player h1 (m_pl (p := 0) (w := 0) (z := g.1 7) (Or.inl rfl) (by decide) (rfl)) dL_isRound_54 rfl rfl rfl (by omega) (by decide) (by omega) (by omega) (Nat.le_of_ble_eq_true rfl) (fun S2 h2 => ?_)
  refine J_istore (pc1 := 59) (L1 := [some (.ref (A 0)), some (.int (iI b)), some (.int (iI a)), some (.int (iI (g.1 5))), some (.int (iI 1)), some (.int (iI (prF g.1 b a))), some (.int (iI (g.1 8))), some (.int (iI (g.1 7))), none, none, none, none, none, none, none, none, none]) dL_isRound_57 rfl (by decide) rfl rfl ?_
  refine J_aload_n (pc1 := 60) rfl (i := 0) rfl dL_isRound_59 rfl ?_
  refine J_iload (pc1 := 62) rfl dL_isRound_60 rfl ?_
  refine J_iconst (pc1 := 63) dL_isRound_62 rfl ?_
  refine J_mX (pc1 := 66) gv_L_37 yv_X9_player h2 (m_pl (p := 1) (w := 3) (z := g.1 12) (Or.inr rfl) (by decide) (rfl)) dL_isRound_63 rfl rfl rfl (by omega) (by decide) (by omega) (by omega) (Nat.le_of_ble_eq_true rfl) (fun S3 h3 => ?_)
  refine J_istore (pc1 := 68) (L1 := [some (.ref (A 0)), some (.int (iI b)), some (.int (iI a)), some (.int (iI (g.1 5))), some (.int (iI 1)), some (.int (iI (prF g.1 b a))), some (.int (iI (g.1 8))), some (.int (iI (g.1 7))), some (.int (iI (g.1 12))), none, none, none, none, none, none, none, none]) dL_isRound_66 rfl (by decide) rfl rfl ?_
  refine J_aload_n (pc1 := 69) rfl (i := 0) rfl dL_isRound_68 rfl ?_
  refine J_iload (pc1 := 71) rfl dL_isRound_69 rfl ?_
  refine J_iconst (pc1 := 72) dL_isRound_71 rfl ?_
  refine J_mX (pc1 := 75) gv_L_37 yv_X9_player h3 (m_pl (p := 1) (w := 4) (z := g.1 14) (Or.inr rfl) (by decide) (rfl)) dL_isRound_72 rfl rfl rfl (by omega) (by decide) (by omega) (by omega) (Nat.le_of_ble_eq_true rfl) (fun S4 h4 => ?_)
  refine J_istore (pc1 := 77) (L1 := [some (.ref (A 0)), some (.int (iI b)), some (.int (iI a)), some (.int (iI (g.1 5))), some (.int (iI 1)), some (.int (iI (prF g.1 b a))), some (.int (iI (g.1 8))), some (.int (iI (g.1 7))), some (.int (iI (g.1 12))), some (.int (iI (g.1 14))), none, none, none, none, none, none, none]) dL_isRound_75 rfl (by decide) rfl rfl ?_
  refine J_aload_n (pc1 := 78) rfl (i := 0) rfl dL_isRound_77 rfl ?_
  refine J_iconst (pc1 := 79) dL_isRound_78 rfl ?_
  refine J_mX (pc1 := 82) gv_L_23 yv_X9_count h4 (m_cn (w := 4) (z := g.1 4) (by decide) (rfl)) dL_isRound_79 rfl rfl rfl (by omega) (by decide) (by omega) (by omega) (Nat.le_of_ble_eq_true rfl) (fun S5 h5 => ?_)
  refine J_istore (pc1 := 84) (L1 := [some (.ref (A 0)), some (.int (iI b)), some (.int (iI a)), some (.int (iI (g.1 5))), some (.int (iI 1)), some (.int (iI (prF g.1 b a))), some (.int (iI (g.1 8))), some (.int (iI (g.1 7))), some (.int (iI (g.1 12))), some (.int (iI (g.1 14))), some (.int (iI (g.1 4))), none, none, none, none, none, none]) dL_isRound_82 rfl (by decide) rfl rfl ?_
  refine J_aload_n (pc1 := 85) rfl (i := 0) rfl dL_isRound_84 rfl ?_
  refine J_bipush (pc1 := 87) (by decide) dL_isRound_85 rfl ?_
  refine J_mX (pc1 := 90) gv_L_23 yv_X9_count h5 (m_cn (w := 6) (z := g.1 6) (by decide) (rfl)) dL_isRound_87 rfl rfl rfl (by omega) (by decide) (by omega) (by omega) (Nat.le_of_ble_eq_true rfl) (fun S6 h6 => ?_)
  refine J_istore (pc1 := 92) (L1 := [some (.ref (A 0)), some (.int (iI b)), some (.int (iI a)), some (.int (iI (g.1 5))), some (.int (iI 1)), some (.int (iI (prF g.1 b a))), some (.int (iI (g.1 8))), some (.int (iI (g.1 7))), some (.int (iI (g.1 12))), some (.int (iI (g.1 14))), some (.int (iI (g.1 4))), some (.int (iI (g.1 6))), none, none, none, none, none]) dL_isRound_90 rfl (by decide) rfl rfl ?_
  refine J_aload_n (pc1 := 93) rfl (i := 0) rfl dL_isRound_92 rfl ?_
  refine J_bipush (pc1 := 95) (by decide) dL_isRound_93 rfl ?_
  refine J_mX (pc1 := 98) gv_L_23 yv_X9_count h6 (m_cn (w := 8) (z := g.1 17) (by decide) (rfl)) dL_isRound_95 rfl rfl rfl (by omega) (by decide) (by omega) (by omega) (Nat.le_of_ble_eq_true rfl) (fun S7 h7 => ?_)
  refine J_istore (pc1 := 100) (L1 := [some (.ref (A 0)), some (.int (iI b)), some (.int (iI a)), some (.int (iI (g.1 5))), some (.int (iI 1)), some (.int (iI (prF g.1 b a))), some (.int (iI (g.1 8))), some (.int (iI (g.1 7))), some (.int (iI (g.1 12))), some (.int (iI (g.1 14))), some (.int (iI (g.1 4))), some (.int (iI (g.1 6))), some (.int (iI (g.1 17))), none, none, none, none]) dL_isRound_98 rfl (by decide) rfl rfl ?_
  refine J_aload_n (pc1 := 101) rfl (i := 0) rfl dL_isRound_100 rfl ?_
  refine J_bipush (pc1 := 103) (by decide) dL_isRound_101 rfl ?_
  refine J_mX (pc1 := 106) gv_L_23 yv_X9_count h7 (m_cn (w := 9) (z := g.1 15 + g.1 16) (by decide) (rfl)) dL_isRound_103 rfl rfl rfl (by omega) (by decide) (by omega) (by omega) (Nat.le_of_ble_eq_true rfl) (fun S8 h8 => ?_)
  refine J_istore (pc1 := 108) (L1 := [some (.ref (A 0)), some (.int (iI b)), some (.int (iI a)), some (.int (iI (g.1 5))), some (.int (iI 1)), some (.int (iI (prF g.1 b a))), some (.int (iI (g.1 8))), some (.int (iI (g.1 7))), some (.int (iI (g.1 12))), some (.int (iI (g.1 14))), some (.int (iI (g.1 4))), some (.int (iI (g.1 6))), some (.int (iI (g.1 17))), some (.int (iI (g.1 15 + g.1 16))), none, none, none]) dL_isRound_106 rfl (by decide) rfl rfl ?_
  refine J_aload_n (pc1 := 109) rfl (i := 0) rfl dL_isRound_108 rfl ?_
  refine J_iconst (pc1 := 110) dL_isRound_109 rfl ?_
  refine J_mX (pc1 := 113) gv_L_23 yv_X9_count h8 (m_cn (w := 2) (z := 0) (by decide) (cz2.trans hps)) dL_isRound_110 rfl rfl rfl (by omega) (by decide) (by omega) (by omega) (Nat.le_of_ble_eq_true rfl) (fun S9 h9 => ?_)
  refine J_iconst (pc1 := 114) dL_isRound_113 rfl ?_
  refine J_icmp_ne (pc1 := 117) (tgt := 121) (by decide) (by decide) (by decide) (by decide) dL_isRound_114 rfl rfl (fun hc1 => ?_) (fun hc1 => ?_)
  · refine J_iconst (pc1 := 122) dL_isRound_121 rfl ?_
    refine J_istore (pc1 := 124) (L1 := [some (.ref (A 0)), some (.int (iI b)), some (.int (iI a)), some (.int (iI (g.1 5))), some (.int (iI 1)), some (.int (iI (prF g.1 b a))), some (.int (iI (g.1 8))), some (.int (iI (g.1 7))), some (.int (iI (g.1 12))), some (.int (iI (g.1 14))), some (.int (iI (g.1 4))), some (.int (iI (g.1 6))), some (.int (iI (g.1 17))), some (.int (iI (g.1 15 + g.1 16))), some (.int (iI 0)), none, none]) dL_isRound_122 rfl (by decide) rfl rfl ?_
    refine J_aload_n (pc1 := 125) rfl (i := 0) rfl dL_isRound_124 rfl ?_
    refine J_iload_n (pc1 := 126) rfl (i := 1) rfl dL_isRound_125 rfl ?_
    refine J_iload_n (pc1 := 127) rfl (i := 2) rfl dL_isRound_126 rfl ?_
    refine J_mX (pc1 := 130) gv_L_56 yv_X9_round h9 (m_roundZ hb ha hal ht) dL_isRound_127 rfl rfl rfl (by omega) (by decide) (by omega) (by omega) (Nat.le_of_ble_eq_true rfl) (fun S10 h10 => ?_)
    refine J_iload (pc1 := 132) rfl dL_isRound_130 rfl ?_
    refine J_icmp_ne (pc1 := 135) (tgt := 266) (by decide) (by decide) (by decide) (by decide) dL_isRound_132 rfl rfl (fun hc2 => ?_) (fun hc2 => ?_)
    · exact absurd hc2 (by decide)
    · refine J_aload_n (pc1 := 136) rfl (i := 0) rfl dL_isRound_135 rfl ?_
      refine J_iload (pc1 := 138) rfl dL_isRound_136 rfl ?_
      refine J_iconst (pc1 := 139) dL_isRound_138 rfl ?_
      refine J_mX (pc1 := 142) gv_L_37 yv_X9_player h10 (m_pl (p := 1) (w := 0) (z := g.1 8 - prF g.1 b a) (Or.inr rfl) (by decide) (p8)) dL_isRound_139 rfl rfl rfl (by omega) (by decide) (by omega) (by omega) (Nat.le_of_ble_eq_true rfl) (fun S11 h11 => ?_)
      refine J_iload (pc1 := 144) rfl dL_isRound_142 rfl ?_
      refine J_iload (pc1 := 146) rfl dL_isRound_144 rfl ?_
      refine J_isub (pc1 := 147) dL_isRound_146 rfl ?_
      refine J_neS (pc1 := 150) (tgt := 266) dL_isRound_147 rfl rfl (by first | rfl | omega) ?_
      refine J_aload_n (pc1 := 151) rfl (i := 0) rfl dL_isRound_150 rfl ?_
      refine J_iconst (pc1 := 152) dL_isRound_151 rfl ?_
      refine J_iload (pc1 := 154) rfl dL_isRound_152 rfl ?_
      refine J_isubE (pc1 := 155) (z := 0) (by decide) dL_isRound_154 rfl ?_
      refine J_iconst (pc1 := 156) dL_isRound_155 rfl ?_
      refine J_mX (pc1 := 159) gv_L_37 yv_X9_player h11 (m_pl (p := 0) (w := 0) (z := g.1 7 + prF g.1 b a) (Or.inl rfl) (by decide) (p7b)) dL_isRound_156 rfl rfl rfl (by omega) (by decide) (by omega) (by omega) (Nat.le_of_ble_eq_true rfl) (fun S12 h12 => ?_)
      refine J_iload (pc1 := 161) rfl dL_isRound_159 rfl ?_
      refine J_iload (pc1 := 163) rfl dL_isRound_161 rfl ?_
      refine J_if_eq (pc1 := 166) (tgt := 170) (by decide) (by decide) dL_isRound_163 rfl rfl (fun hc3 => ?_) (fun hc3 => ?_)
      · refine J_iload (pc1 := 172) rfl dL_isRound_170 rfl ?_
        refine J_iadd (pc1 := 173) dL_isRound_172 rfl ?_
        refine J_neS (pc1 := 176) (tgt := 266) dL_isRound_173 rfl rfl (by first | rfl | omega) ?_
        refine J_aload_n (pc1 := 177) rfl (i := 0) rfl dL_isRound_176 rfl ?_
        refine J_bipush (pc1 := 179) (by decide) dL_isRound_177 rfl ?_
        refine J_mX (pc1 := 182) gv_L_23 yv_X9_count h12 (m_cn (w := 8) (z := g.1 17 + 0) (by decide) ((by rw [cz8]; exact p17b))) dL_isRound_179 rfl rfl rfl (by omega) (by decide) (by omega) (by omega) (Nat.le_of_ble_eq_true rfl) (fun S13 h13 => ?_)
        refine J_iload (pc1 := 184) rfl dL_isRound_182 rfl ?_
        refine J_iload (pc1 := 186) rfl dL_isRound_184 rfl ?_
        refine J_if_eq (pc1 := 189) (tgt := 194) (by decide) (by decide) dL_isRound_186 rfl rfl (fun hc4 => ?_) (fun hc4 => ?_)
        · refine J_iconst (pc1 := 195) dL_isRound_194 rfl ?_
          refine J_iadd (pc1 := 196) dL_isRound_195 rfl ?_
          refine J_neS (pc1 := 199) (tgt := 266) dL_isRound_196 rfl rfl (by first | rfl | omega) ?_
          refine J_aload_n (pc1 := 200) rfl (i := 0) rfl dL_isRound_199 rfl ?_
          refine J_iload (pc1 := 202) rfl dL_isRound_200 rfl ?_
          refine J_iconst (pc1 := 203) dL_isRound_202 rfl ?_
          refine J_mX (pc1 := 206) gv_L_37 yv_X9_player h13 (m_pl (p := 1) (w := 3) (z := g.1 12 + prF g.1 b a) (Or.inr rfl) (by decide) (p12)) dL_isRound_203 rfl rfl rfl (by omega) (by decide) (by omega) (by omega) (Nat.le_of_ble_eq_true rfl) (fun S14 h14 => ?_)
          refine J_iload (pc1 := 208) rfl dL_isRound_206 rfl ?_
          refine J_iload (pc1 := 210) rfl dL_isRound_208 rfl ?_
          refine J_iadd (pc1 := 211) dL_isRound_210 rfl ?_
          refine J_neS (pc1 := 214) (tgt := 266) dL_isRound_211 rfl rfl (by first | rfl | omega) ?_
          refine J_aload_n (pc1 := 215) rfl (i := 0) rfl dL_isRound_214 rfl ?_
          refine J_iload (pc1 := 217) rfl dL_isRound_215 rfl ?_
          refine J_iconst (pc1 := 218) dL_isRound_217 rfl ?_
          refine J_mX (pc1 := 221) gv_L_37 yv_X9_player h14 (m_pl (p := 1) (w := 4) (z := g.1 14 + 1) (Or.inr rfl) (by decide) (p14)) dL_isRound_218 rfl rfl rfl (by omega) (by decide) (by omega) (by omega) (Nat.le_of_ble_eq_true rfl) (fun S15 h15 => ?_)
          refine J_iload (pc1 := 223) rfl dL_isRound_221 rfl ?_
          refine J_iconst (pc1 := 224) dL_isRound_223 rfl ?_
          refine J_iadd (pc1 := 225) dL_isRound_224 rfl ?_
          refine J_neS (pc1 := 228) (tgt := 266) dL_isRound_225 rfl rfl (by first | rfl | omega) ?_
          refine J_aload_n (pc1 := 229) rfl (i := 0) rfl dL_isRound_228 rfl ?_
          refine J_iconst (pc1 := 230) dL_isRound_229 rfl ?_
          refine J_mX (pc1 := 233) gv_L_23 yv_X9_count h15 (m_cn (w := 4) (z := g.1 4 + -1) (by decide) (p4)) dL_isRound_230 rfl rfl rfl (by omega) (by decide) (by omega) (by omega) (Nat.le_of_ble_eq_true rfl) (fun S16 h16 => ?_)
          refine J_iload (pc1 := 235) rfl dL_isRound_233 rfl ?_
          refine J_iload (pc1 := 237) rfl dL_isRound_235 rfl ?_
          refine J_if_ne (pc1 := 240) (tgt := 244) (by decide) (by decide) dL_isRound_237 rfl rfl (fun hc5 => ?_) (fun hc5 => ?_)
          · refine J_iconst (pc1 := 245) dL_isRound_244 rfl ?_
            refine J_iadd (pc1 := 246) dL_isRound_245 rfl ?_
            refine J_neS (pc1 := 249) (tgt := 266) dL_isRound_246 rfl rfl (by first | rfl | omega) ?_
            refine J_aload_n (pc1 := 250) rfl (i := 0) rfl dL_isRound_249 rfl ?_
            refine J_bipush (pc1 := 252) (by decide) dL_isRound_250 rfl ?_
            refine J_mX (pc1 := 255) gv_L_23 yv_X9_count h16 (m_cn (w := 6) (z := g.1 6 + 1) (by decide) (p6)) dL_isRound_252 rfl rfl rfl (by omega) (by decide) (by omega) (by omega) (Nat.le_of_ble_eq_true rfl) (fun S17 h17 => ?_)
            refine J_iload (pc1 := 257) rfl dL_isRound_255 rfl ?_
            refine J_iconst (pc1 := 258) dL_isRound_257 rfl ?_
            refine J_iadd (pc1 := 259) dL_isRound_258 rfl ?_
            refine J_neS (pc1 := 262) (tgt := 266) dL_isRound_259 rfl rfl (by first | rfl | omega) ?_
            refine J_iconst (pc1 := 263) dL_isRound_262 rfl ?_
            refine J_goto (tgt := 267) dL_isRound_263 rfl ?_
            refine J_istore (pc1 := 269) (L1 := [some (.ref (A 0)), some (.int (iI b)), some (.int (iI a)), some (.int (iI (g.1 5))), some (.int (iI 1)), some (.int (iI (prF g.1 b a))), some (.int (iI (g.1 8))), some (.int (iI (g.1 7))), some (.int (iI (g.1 12))), some (.int (iI (g.1 14))), some (.int (iI (g.1 4))), some (.int (iI (g.1 6))), some (.int (iI (g.1 17))), some (.int (iI (g.1 15 + g.1 16))), some (.int (iI 0)), some (.int (iI 1)), none]) dL_isRound_267 rfl (by decide) rfl rfl ?_
            refine J_aload_n (pc1 := 270) rfl (i := 0) rfl dL_isRound_269 rfl ?_
            refine J_iconst (pc1 := 271) dL_isRound_270 rfl ?_
            refine J_mX (pc1 := 274) gv_L_23 yv_X9_count h17 (m_cn (w := 4) (z := g.1 4 + -1) (by decide) (p4)) dL_isRound_271 rfl rfl rfl (by omega) (by decide) (by omega) (by omega) (Nat.le_of_ble_eq_true rfl) (fun S18 h18 => ?_)
            refine J_aload_n (pc1 := 275) rfl (i := 0) rfl dL_isRound_274 rfl ?_
            refine J_iconst (pc1 := 276) dL_isRound_275 rfl ?_
            refine J_mX (pc1 := 279) gv_L_23 yv_X9_count h18 (m_cn (w := 0) (z := g.1 0) (by decide) (p0)) dL_isRound_276 rfl rfl rfl (by omega) (by decide) (by omega) (by omega) (Nat.le_of_ble_eq_true rfl) (fun S19 h19 => ?_)
            refine J_icmp_eq (pc1 := 282) (tgt := 296) (by omega) (by omega) (by omega) (by omega) dL_isRound_279 rfl rfl (fun hc6 => ?_) (fun hc6 => ?_)
            · exact absurd hc6 (by omega)
            · refine J_aload_n (pc1 := 283) rfl (i := 0) rfl dL_isRound_282 rfl ?_
              refine J_iconst (pc1 := 284) dL_isRound_283 rfl ?_
              refine J_mX (pc1 := 287) gv_L_23 yv_X9_count h19 (m_cn (w := 4) (z := g.1 4 + -1) (by decide) (p4)) dL_isRound_284 rfl rfl rfl (by omega) (by decide) (by omega) (by omega) (Nat.le_of_ble_eq_true rfl) (fun S20 h20 => ?_)
              refine J_aload_n (pc1 := 288) rfl (i := 0) rfl dL_isRound_287 rfl ?_
              refine J_iconst (pc1 := 289) dL_isRound_288 rfl ?_
              refine J_mX (pc1 := 292) gv_L_23 yv_X9_count h20 (m_cn (w := 0) (z := g.1 0) (by decide) (p0)) dL_isRound_289 rfl rfl rfl (by omega) (by decide) (by omega) (by omega) (Nat.le_of_ble_eq_true rfl) (fun S21 h21 => ?_)
              refine J_ineg (pc1 := 293) dL_isRound_292 rfl ?_
              refine J_icmp_ne (pc1 := 296) (tgt := 300) (by omega) (by omega) (by omega) (by omega) dL_isRound_293 rfl rfl (fun hc7 => ?_) (fun hc7 => ?_)
              · refine J_iconst (pc1 := 301) dL_isRound_300 rfl ?_
                refine J_istore (pc1 := 303) (L1 := [some (.ref (A 0)), some (.int (iI b)), some (.int (iI a)), some (.int (iI (g.1 5))), some (.int (iI 1)), some (.int (iI (prF g.1 b a))), some (.int (iI (g.1 8))), some (.int (iI (g.1 7))), some (.int (iI (g.1 12))), some (.int (iI (g.1 14))), some (.int (iI (g.1 4))), some (.int (iI (g.1 6))), some (.int (iI (g.1 17))), some (.int (iI (g.1 15 + g.1 16))), some (.int (iI 0)), some (.int (iI 1)), some (.int (iI 0))]) dL_isRound_301 rfl (by decide) rfl rfl ?_
                refine J_iload (pc1 := 305) rfl dL_isRound_303 rfl ?_
                refine J_if_eq (pc1 := 308) (tgt := 394) (by decide) (by decide) dL_isRound_305 rfl rfl (fun hc8 => ?_) (fun hc8 => ?_)
                · exact absurd hc8 (by decide)
                · refine J_aload_n (pc1 := 309) rfl (i := 0) rfl dL_isRound_308 rfl ?_
                  refine J_bipush (pc1 := 311) (by decide) dL_isRound_309 rfl ?_
                  refine J_mX (pc1 := 314) gv_L_23 yv_X9_count h21 (m_cn (w := 9) (z := g.1 15 + g.1 16 + 0) (by decide) (cz9.trans (wn1_0 ok hw ht hc7).1)) dL_isRound_311 rfl rfl rfl (by omega) (by decide) (by omega) (by omega) (Nat.le_of_ble_eq_true rfl) (fun S22 h22 => ?_)
                  refine J_iload (pc1 := 316) rfl dL_isRound_314 rfl ?_
                  refine J_iload (pc1 := 318) rfl dL_isRound_316 rfl ?_
                  refine J_if_eq (pc1 := 321) (tgt := 325) (by decide) (by decide) dL_isRound_318 rfl rfl (fun hc9 => ?_) (fun hc9 => ?_)
                  · refine J_iconst (pc1 := 326) dL_isRound_325 rfl ?_
                    refine J_iadd (pc1 := 327) dL_isRound_326 rfl ?_
                    refine J_neS (pc1 := 330) (tgt := 394) dL_isRound_327 rfl rfl (by first | rfl | omega) ?_
                    refine J_aload_n (pc1 := 331) rfl (i := 0) rfl dL_isRound_330 rfl ?_
                    refine J_bipush (pc1 := 333) (by decide) dL_isRound_331 rfl ?_
                    refine J_mX (pc1 := 336) gv_L_23 yv_X9_count h22 (m_cn (w := 7) (z := (-1006)) (by decide) (cz7.trans (wn1_0 ok hw ht hc7).2)) dL_isRound_333 rfl rfl rfl (by omega) (by decide) (by omega) (by omega) (Nat.le_of_ble_eq_true rfl) (fun S23 h23 => ?_)
                    refine J_iload (pc1 := 338) rfl dL_isRound_336 rfl ?_
                    refine J_if_eq (pc1 := 341) (tgt := 346) (by decide) (by decide) dL_isRound_338 rfl rfl (fun hc10 => ?_) (fun hc10 => ?_)
                    · refine J_sipush (pc1 := 349) (by decide) dL_isRound_346 rfl ?_
                      refine J_icmp_ne (pc1 := 352) (tgt := 394) (by decide) (by decide) (by decide) (by decide) dL_isRound_349 rfl rfl (fun hc11 => ?_) (fun hc11 => ?_)
                      · exact absurd hc11 (by decide)
                      · refine J_aload_n (pc1 := 353) rfl (i := 0) rfl dL_isRound_352 rfl ?_
                        refine J_iconst (pc1 := 354) dL_isRound_353 rfl ?_
                        refine J_mX (pc1 := 357) gv_L_23 yv_X9_count h23 (m_cn (w := 5) (z := 1 - g.1 5) (by decide) ((cz5 (wn1_0 ok hw ht hc7).2).trans p5)) dL_isRound_354 rfl rfl rfl (by omega) (by decide) (by omega) (by omega) (Nat.le_of_ble_eq_true rfl) (fun S24 h24 => ?_)
                        refine J_iload (pc1 := 359) rfl dL_isRound_357 rfl ?_
                        refine J_if_eq (pc1 := 362) (tgt := 368) (by decide) (by decide) dL_isRound_359 rfl rfl (fun hc12 => ?_) (fun hc12 => ?_)
                        · refine J_iconst (pc1 := 369) dL_isRound_368 rfl ?_
                          refine J_iload_n (pc1 := 370) rfl (i := 3) rfl dL_isRound_369 rfl ?_
                          refine J_isub (pc1 := 371) dL_isRound_370 rfl ?_
                          refine J_neS (pc1 := 374) (tgt := 394) dL_isRound_371 rfl rfl (by first | rfl | omega) ?_
                          refine J_aload_n (pc1 := 375) rfl (i := 0) rfl dL_isRound_374 rfl ?_
                          refine J_iload (pc1 := 377) rfl dL_isRound_375 rfl ?_
                          refine J_iconst (pc1 := 378) dL_isRound_377 rfl ?_
                          refine J_mX (pc1 := 381) gv_L_37 yv_X9_player h24 (m_pl (p := 1) (w := 0) (z := g.1 8 - prF g.1 b a) (Or.inr rfl) (by decide) (p8)) dL_isRound_378 rfl rfl rfl (by omega) (by decide) (by omega) (by omega) (Nat.le_of_ble_eq_true rfl) (fun S25 h25 => ?_)
                          refine J_aload_n (pc1 := 382) rfl (i := 0) rfl dL_isRound_381 rfl ?_
                          refine J_iconst (pc1 := 383) dL_isRound_382 rfl ?_
                          refine J_mX (pc1 := 386) gv_L_23 yv_X9_count h25 (m_cn (w := 1) (z := g.1 1) (by decide) (p1)) dL_isRound_383 rfl rfl rfl (by omega) (by decide) (by omega) (by omega) (Nat.le_of_ble_eq_true rfl) (fun S26 h26 => ?_)
                          refine J_ineg (pc1 := 387) dL_isRound_386 rfl ?_
                          refine J_icmp_lt (pc1 := 390) (tgt := 394) (by omega) (by omega) (by omega) (by omega) dL_isRound_387 rfl rfl (fun hc13 => ?_) (fun hc13 => ?_)
                          · exact absurd hc13 (by omega)
                          · refine J_iconst (pc1 := 391) dL_isRound_390 rfl ?_
                            refine J_goto (tgt := 395) dL_isRound_391 rfl ?_
                            exact J_iret rfl rfl dL_isRound_395 (by omega) (by omega) (kIS_mk rfl h26)
                        · exact absurd hc12 (by decide)
                    · exact absurd hc10 (by decide)
                  · exact absurd hc9 (by decide)
              · refine J_iconst (pc1 := 297) dL_isRound_296 rfl ?_
                refine J_goto (tgt := 301) dL_isRound_297 rfl ?_
                refine J_istore (pc1 := 303) (L1 := [some (.ref (A 0)), some (.int (iI b)), some (.int (iI a)), some (.int (iI (g.1 5))), some (.int (iI 1)), some (.int (iI (prF g.1 b a))), some (.int (iI (g.1 8))), some (.int (iI (g.1 7))), some (.int (iI (g.1 12))), some (.int (iI (g.1 14))), some (.int (iI (g.1 4))), some (.int (iI (g.1 6))), some (.int (iI (g.1 17))), some (.int (iI (g.1 15 + g.1 16))), some (.int (iI 0)), some (.int (iI 1)), some (.int (iI 1))]) dL_isRound_301 rfl (by decide) rfl rfl ?_
                refine J_iload (pc1 := 305) rfl dL_isRound_303 rfl ?_
                refine J_if_eq (pc1 := 308) (tgt := 394) (by decide) (by decide) dL_isRound_305 rfl rfl (fun hc14 => ?_) (fun hc14 => ?_)
                · exact absurd hc14 (by decide)
                · refine J_aload_n (pc1 := 309) rfl (i := 0) rfl dL_isRound_308 rfl ?_
                  refine J_bipush (pc1 := 311) (by decide) dL_isRound_309 rfl ?_
                  refine J_mX (pc1 := 314) gv_L_23 yv_X9_count h21 (m_cn (w := 9) (z := g.1 15 + g.1 16 + 1) (by decide) (cz9.trans (wn1_1 ok ht hc7).1)) dL_isRound_311 rfl rfl rfl (by omega) (by decide) (by omega) (by omega) (Nat.le_of_ble_eq_true rfl) (fun S27 h27 => ?_)
                  refine J_iload (pc1 := 316) rfl dL_isRound_314 rfl ?_
                  refine J_iload (pc1 := 318) rfl dL_isRound_316 rfl ?_
                  refine J_if_eq (pc1 := 321) (tgt := 325) (by decide) (by decide) dL_isRound_318 rfl rfl (fun hc15 => ?_) (fun hc15 => ?_)
                  · exact absurd hc15 (by decide)
                  · refine J_iconst (pc1 := 322) dL_isRound_321 rfl ?_
                    refine J_goto (tgt := 326) dL_isRound_322 rfl ?_
                    refine J_iadd (pc1 := 327) dL_isRound_326 rfl ?_
                    refine J_neS (pc1 := 330) (tgt := 394) dL_isRound_327 rfl rfl (by first | rfl | omega) ?_
                    refine J_aload_n (pc1 := 331) rfl (i := 0) rfl dL_isRound_330 rfl ?_
                    refine J_bipush (pc1 := 333) (by decide) dL_isRound_331 rfl ?_
                    refine J_mX (pc1 := 336) gv_L_23 yv_X9_count h27 (m_cn (w := 7) (z := 1) (by decide) (cz7.trans (wn1_1 ok ht hc7).2)) dL_isRound_333 rfl rfl rfl (by omega) (by decide) (by omega) (by omega) (Nat.le_of_ble_eq_true rfl) (fun S28 h28 => ?_)
                    refine J_iload (pc1 := 338) rfl dL_isRound_336 rfl ?_
                    refine J_if_eq (pc1 := 341) (tgt := 346) (by decide) (by decide) dL_isRound_338 rfl rfl (fun hc16 => ?_) (fun hc16 => ?_)
                    · exact absurd hc16 (by decide)
                    · refine J_iload (pc1 := 343) rfl dL_isRound_341 rfl ?_
                      refine J_goto (tgt := 349) dL_isRound_343 rfl ?_
                      refine J_icmp_ne (pc1 := 352) (tgt := 394) (by decide) (by decide) (by decide) (by decide) dL_isRound_349 rfl rfl (fun hc17 => ?_) (fun hc17 => ?_)
                      · exact absurd hc17 (by decide)
                      · refine J_aload_n (pc1 := 353) rfl (i := 0) rfl dL_isRound_352 rfl ?_
                        refine J_iconst (pc1 := 354) dL_isRound_353 rfl ?_
                        refine J_mX (pc1 := 357) gv_L_23 yv_X9_count h28 (m_cn (w := 5) (z := (-1006)) (by decide) (cz5x (by rw [(wn1_1 ok ht hc7).2]; decide))) dL_isRound_354 rfl rfl rfl (by omega) (by decide) (by omega) (by omega) (Nat.le_of_ble_eq_true rfl) (fun S29 h29 => ?_)
                        refine J_iload (pc1 := 359) rfl dL_isRound_357 rfl ?_
                        refine J_if_eq (pc1 := 362) (tgt := 368) (by decide) (by decide) dL_isRound_359 rfl rfl (fun hc18 => ?_) (fun hc18 => ?_)
                        · exact absurd hc18 (by decide)
                        · refine J_sipush (pc1 := 365) (by decide) dL_isRound_362 rfl ?_
                          refine J_goto (tgt := 371) dL_isRound_365 rfl ?_
                          refine J_neS (pc1 := 374) (tgt := 394) dL_isRound_371 rfl rfl (by first | rfl | omega) ?_
                          refine J_aload_n (pc1 := 375) rfl (i := 0) rfl dL_isRound_374 rfl ?_
                          refine J_iload (pc1 := 377) rfl dL_isRound_375 rfl ?_
                          refine J_iconst (pc1 := 378) dL_isRound_377 rfl ?_
                          refine J_mX (pc1 := 381) gv_L_37 yv_X9_player h29 (m_pl (p := 1) (w := 0) (z := g.1 8 - prF g.1 b a) (Or.inr rfl) (by decide) (p8)) dL_isRound_378 rfl rfl rfl (by omega) (by decide) (by omega) (by omega) (Nat.le_of_ble_eq_true rfl) (fun S30 h30 => ?_)
                          refine J_aload_n (pc1 := 382) rfl (i := 0) rfl dL_isRound_381 rfl ?_
                          refine J_iconst (pc1 := 383) dL_isRound_382 rfl ?_
                          refine J_mX (pc1 := 386) gv_L_23 yv_X9_count h30 (m_cn (w := 1) (z := g.1 1) (by decide) (p1)) dL_isRound_383 rfl rfl rfl (by omega) (by decide) (by omega) (by omega) (Nat.le_of_ble_eq_true rfl) (fun S31 h31 => ?_)
                          refine J_ineg (pc1 := 387) dL_isRound_386 rfl ?_
                          refine J_icmp_lt (pc1 := 390) (tgt := 394) (by omega) (by omega) (by omega) (by omega) dL_isRound_387 rfl rfl (fun hc19 => ?_) (fun hc19 => ?_)
                          · exact absurd hc19 (by omega)
                          · refine J_iconst (pc1 := 391) dL_isRound_390 rfl ?_
                            refine J_goto (tgt := 395) dL_isRound_391 rfl ?_
                            exact J_iret rfl rfl dL_isRound_395 (by omega) (by omega) (kIS_mk rfl h31)
          · exact absurd hc5 (by decide)
        · exact absurd hc4 (by decide)
      · exact absurd hc3 (by decide)
  · exact absurd hc1 (by decide)
set_option maxHeartbeats 2000000 in
set_option maxRecDepth 20000 in
theorem ir_11 {A : Nat → Nat} {g : GS} {tx : Int → Int} {L : Nat} {b a : Int} (hb : 0 ≤ b ∧ b ≤ 14) (ha : 0 ≤ a ∧ a ≤ 14) (hal : alF g.1 b a) (ht : tkF g.1 b a = 1) (hps : g.1 2 = 1) : ∀ S, XT S A g tx L → Jd yL_isRound cL_isRound 17 (some .boolean) 9 40 11800 (kIS 1 (fun T => XT T A (chg g (plF g.1 b a)) tx L)) 0 0 S 39 [some (.ref (A 0)), some (.int (iI b)), some (.int (iI a)), some (.int (iI (g.1 5))), some (.int (iI 1)), some (.int (iI (prF g.1 b a))), none, none, none, none, none, none, none, none, none, none, none] [] := by
  intro S hX
  have ok := hX.2.1.1
  have hw : winF g.1 = -1006 := hal.1
  have hv := win_o hw
  have hpb := pr_b ok ⟨hb.1, hal.2.1⟩ ⟨ha.1, hal.2.2⟩
  rw [ht] at hpb
  have hm : moF g.1 1 = g.1 8 + g.1 1 := rfl
  rw [hm] at hpb
  obtain ⟨o0, o1, o2, o3, o4, o5, o7, o9, o10, o12, o13, o18⟩ := id ok
  obtain ⟨p0, p1, p2, p3, p4, p5, p6, p7, p8, p9, p10, p11, p12, p13, p14, p15, p16, p17, p18⟩ := plF_at1 ht
  have hg : gaF g.1 (prF g.1 b a) = 0 := gaE1 hps
  have p7b : plF g.1 b a 7 = g.1 7 + 0 := by rw [p7, hg]
  have p17b : plF g.1 b a 17 = g.1 17 + prF g.1 b a := by rw [p17, hg]; omega
  refine J_aload_n (pc1 := 40) rfl (i := 0) rfl dL_isRound_39 rfl ?_
  refine J_iload (pc1 := 42) rfl dL_isRound_40 rfl ?_
  refine J_iconst (pc1 := 43) dL_isRound_42 rfl ?_
  refine J_mX (pc1 := 46) gv_L_37 yv_X9_player hX (m_pl (p := 1) (w := 0) (z := g.1 8) (Or.inr rfl) (by decide) (rfl)) dL_isRound_43 rfl rfl rfl (by omega) (by decide) (by omega) (by omega) (Nat.le_of_ble_eq_true rfl) (fun S1 h1 => ?_)
  refine J_istore (pc1 := 48) (L1 := [some (.ref (A 0)), some (.int (iI b)), some (.int (iI a)), some (.int (iI (g.1 5))), some (.int (iI 1)), some (.int (iI (prF g.1 b a))), some (.int (iI (g.1 8))), none, none, none, none, none, none, none, none, none, none]) dL_isRound_46 rfl (by decide) rfl rfl ?_
  refine J_aload_n (pc1 := 49) rfl (i := 0) rfl dL_isRound_48 rfl ?_
  refine J_iconst (pc1 := 50) dL_isRound_49 rfl ?_
  refine J_iload (pc1 := 52) rfl dL_isRound_50 rfl ?_
  refine J_isubE (pc1 := 53) (z := 0) (by decide) dL_isRound_52 rfl ?_
  refine J_iconst (pc1 := 54) dL_isRound_53 rfl ?_
  refine J_mX (pc1 := 57) gv_L_37 yv_X9_player h1 (m_pl (p := 0) (w := 0) (z := g.1 7) (Or.inl rfl) (by decide) (rfl)) dL_isRound_54 rfl rfl rfl (by omega) (by decide) (by omega) (by omega) (Nat.le_of_ble_eq_true rfl) (fun S2 h2 => ?_)
  refine J_istore (pc1 := 59) (L1 := [some (.ref (A 0)), some (.int (iI b)), some (.int (iI a)), some (.int (iI (g.1 5))), some (.int (iI 1)), some (.int (iI (prF g.1 b a))), some (.int (iI (g.1 8))), some (.int (iI (g.1 7))), none, none, none, none, none, none, none, none, none]) dL_isRound_57 rfl (by decide) rfl rfl ?_
  refine J_aload_n (pc1 := 60) rfl (i := 0) rfl dL_isRound_59 rfl ?_
  refine J_iload (pc1 := 62) rfl dL_isRound_60 rfl ?_
  refine J_iconst (pc1 := 63) dL_isRound_62 rfl ?_
  refine J_mX (pc1 := 66) gv_L_37 yv_X9_player h2 (m_pl (p := 1) (w := 3) (z := g.1 12) (Or.inr rfl) (by decide) (rfl)) dL_isRound_63 rfl rfl rfl (by omega) (by decide) (by omega) (by omega) (Nat.le_of_ble_eq_true rfl) (fun S3 h3 => ?_)
  refine J_istore (pc1 := 68) (L1 := [some (.ref (A 0)), some (.int (iI b)), some (.int (iI a)), some (.int (iI (g.1 5))), some (.int (iI 1)), some (.int (iI (prF g.1 b a))), some (.int (iI (g.1 8))), some (.int (iI (g.1 7))), some (.int (iI (g.1 12))), none, none, none, none, none, none, none, none]) dL_isRound_66 rfl (by decide) rfl rfl ?_
  refine J_aload_n (pc1 := 69) rfl (i := 0) rfl dL_isRound_68 rfl ?_
  refine J_iload (pc1 := 71) rfl dL_isRound_69 rfl ?_
  refine J_iconst (pc1 := 72) dL_isRound_71 rfl ?_
  refine J_mX (pc1 := 75) gv_L_37 yv_X9_player h3 (m_pl (p := 1) (w := 4) (z := g.1 14) (Or.inr rfl) (by decide) (rfl)) dL_isRound_72 rfl rfl rfl (by omega) (by decide) (by omega) (by omega) (Nat.le_of_ble_eq_true rfl) (fun S4 h4 => ?_)
  refine J_istore (pc1 := 77) (L1 := [some (.ref (A 0)), some (.int (iI b)), some (.int (iI a)), some (.int (iI (g.1 5))), some (.int (iI 1)), some (.int (iI (prF g.1 b a))), some (.int (iI (g.1 8))), some (.int (iI (g.1 7))), some (.int (iI (g.1 12))), some (.int (iI (g.1 14))), none, none, none, none, none, none, none]) dL_isRound_75 rfl (by decide) rfl rfl ?_
  refine J_aload_n (pc1 := 78) rfl (i := 0) rfl dL_isRound_77 rfl ?_
  refine J_iconst (pc1 := 79) dL_isRound_78 rfl ?_
  refine J_mX (pc1 := 82) gv_L_23 yv_X9_count h4 (m_cn (w := 4) (z := g.1 4) (by decide) (rfl)) dL_isRound_79 rfl rfl rfl (by omega) (by decide) (by omega) (by omega) (Nat.le_of_ble_eq_true rfl) (fun S5 h5 => ?_)
  refine J_istore (pc1 := 84) (L1 := [some (.ref (A 0)), some (.int (iI b)), some (.int (iI a)), some (.int (iI (g.1 5))), some (.int (iI 1)), some (.int (iI (prF g.1 b a))), some (.int (iI (g.1 8))), some (.int (iI (g.1 7))), some (.int (iI (g.1 12))), some (.int (iI (g.1 14))), some (.int (iI (g.1 4))), none, none, none, none, none, none]) dL_isRound_82 rfl (by decide) rfl rfl ?_
  refine J_aload_n (pc1 := 85) rfl (i := 0) rfl dL_isRound_84 rfl ?_
  refine J_bipush (pc1 := 87) (by decide) dL_isRound_85 rfl ?_
  refine J_mX (pc1 := 90) gv_L_23 yv_X9_count h5 (m_cn (w := 6) (z := g.1 6) (by decide) (rfl)) dL_isRound_87 rfl rfl rfl (by omega) (by decide) (by omega) (by omega) (Nat.le_of_ble_eq_true rfl) (fun S6 h6 => ?_)
  refine J_istore (pc1 := 92) (L1 := [some (.ref (A 0)), some (.int (iI b)), some (.int (iI a)), some (.int (iI (g.1 5))), some (.int (iI 1)), some (.int (iI (prF g.1 b a))), some (.int (iI (g.1 8))), some (.int (iI (g.1 7))), some (.int (iI (g.1 12))), some (.int (iI (g.1 14))), some (.int (iI (g.1 4))), some (.int (iI (g.1 6))), none, none, none, none, none]) dL_isRound_90 rfl (by decide) rfl rfl ?_
  refine J_aload_n (pc1 := 93) rfl (i := 0) rfl dL_isRound_92 rfl ?_
  refine J_bipush (pc1 := 95) (by decide) dL_isRound_93 rfl ?_
  refine J_mX (pc1 := 98) gv_L_23 yv_X9_count h6 (m_cn (w := 8) (z := g.1 17) (by decide) (rfl)) dL_isRound_95 rfl rfl rfl (by omega) (by decide) (by omega) (by omega) (Nat.le_of_ble_eq_true rfl) (fun S7 h7 => ?_)
  refine J_istore (pc1 := 100) (L1 := [some (.ref (A 0)), some (.int (iI b)), some (.int (iI a)), some (.int (iI (g.1 5))), some (.int (iI 1)), some (.int (iI (prF g.1 b a))), some (.int (iI (g.1 8))), some (.int (iI (g.1 7))), some (.int (iI (g.1 12))), some (.int (iI (g.1 14))), some (.int (iI (g.1 4))), some (.int (iI (g.1 6))), some (.int (iI (g.1 17))), none, none, none, none]) dL_isRound_98 rfl (by decide) rfl rfl ?_
  refine J_aload_n (pc1 := 101) rfl (i := 0) rfl dL_isRound_100 rfl ?_
  refine J_bipush (pc1 := 103) (by decide) dL_isRound_101 rfl ?_
  refine J_mX (pc1 := 106) gv_L_23 yv_X9_count h7 (m_cn (w := 9) (z := g.1 15 + g.1 16) (by decide) (rfl)) dL_isRound_103 rfl rfl rfl (by omega) (by decide) (by omega) (by omega) (Nat.le_of_ble_eq_true rfl) (fun S8 h8 => ?_)
  refine J_istore (pc1 := 108) (L1 := [some (.ref (A 0)), some (.int (iI b)), some (.int (iI a)), some (.int (iI (g.1 5))), some (.int (iI 1)), some (.int (iI (prF g.1 b a))), some (.int (iI (g.1 8))), some (.int (iI (g.1 7))), some (.int (iI (g.1 12))), some (.int (iI (g.1 14))), some (.int (iI (g.1 4))), some (.int (iI (g.1 6))), some (.int (iI (g.1 17))), some (.int (iI (g.1 15 + g.1 16))), none, none, none]) dL_isRound_106 rfl (by decide) rfl rfl ?_
  refine J_aload_n (pc1 := 109) rfl (i := 0) rfl dL_isRound_108 rfl ?_
  refine J_iconst (pc1 := 110) dL_isRound_109 rfl ?_
  refine J_mX (pc1 := 113) gv_L_23 yv_X9_count h8 (m_cn (w := 2) (z := 1) (by decide) (cz2.trans hps)) dL_isRound_110 rfl rfl rfl (by omega) (by decide) (by omega) (by omega) (Nat.le_of_ble_eq_true rfl) (fun S9 h9 => ?_)
  refine J_iconst (pc1 := 114) dL_isRound_113 rfl ?_
  refine J_icmp_ne (pc1 := 117) (tgt := 121) (by decide) (by decide) (by decide) (by decide) dL_isRound_114 rfl rfl (fun hc1 => ?_) (fun hc1 => ?_)
  · exact absurd hc1 (by decide)
  · refine J_iconst (pc1 := 118) dL_isRound_117 rfl ?_
    refine J_goto (tgt := 122) dL_isRound_118 rfl ?_
    refine J_istore (pc1 := 124) (L1 := [some (.ref (A 0)), some (.int (iI b)), some (.int (iI a)), some (.int (iI (g.1 5))), some (.int (iI 1)), some (.int (iI (prF g.1 b a))), some (.int (iI (g.1 8))), some (.int (iI (g.1 7))), some (.int (iI (g.1 12))), some (.int (iI (g.1 14))), some (.int (iI (g.1 4))), some (.int (iI (g.1 6))), some (.int (iI (g.1 17))), some (.int (iI (g.1 15 + g.1 16))), some (.int (iI 1)), none, none]) dL_isRound_122 rfl (by decide) rfl rfl ?_
    refine J_aload_n (pc1 := 125) rfl (i := 0) rfl dL_isRound_124 rfl ?_
    refine J_iload_n (pc1 := 126) rfl (i := 1) rfl dL_isRound_125 rfl ?_
    refine J_iload_n (pc1 := 127) rfl (i := 2) rfl dL_isRound_126 rfl ?_
    refine J_mX (pc1 := 130) gv_L_56 yv_X9_round h9 (m_roundZ hb ha hal ht) dL_isRound_127 rfl rfl rfl (by omega) (by decide) (by omega) (by omega) (Nat.le_of_ble_eq_true rfl) (fun S10 h10 => ?_)
    refine J_iload (pc1 := 132) rfl dL_isRound_130 rfl ?_
    refine J_icmp_ne (pc1 := 135) (tgt := 266) (by decide) (by decide) (by decide) (by decide) dL_isRound_132 rfl rfl (fun hc2 => ?_) (fun hc2 => ?_)
    · exact absurd hc2 (by decide)
    · refine J_aload_n (pc1 := 136) rfl (i := 0) rfl dL_isRound_135 rfl ?_
      refine J_iload (pc1 := 138) rfl dL_isRound_136 rfl ?_
      refine J_iconst (pc1 := 139) dL_isRound_138 rfl ?_
      refine J_mX (pc1 := 142) gv_L_37 yv_X9_player h10 (m_pl (p := 1) (w := 0) (z := g.1 8 - prF g.1 b a) (Or.inr rfl) (by decide) (p8)) dL_isRound_139 rfl rfl rfl (by omega) (by decide) (by omega) (by omega) (Nat.le_of_ble_eq_true rfl) (fun S11 h11 => ?_)
      refine J_iload (pc1 := 144) rfl dL_isRound_142 rfl ?_
      refine J_iload (pc1 := 146) rfl dL_isRound_144 rfl ?_
      refine J_isub (pc1 := 147) dL_isRound_146 rfl ?_
      refine J_neS (pc1 := 150) (tgt := 266) dL_isRound_147 rfl rfl (by first | rfl | omega) ?_
      refine J_aload_n (pc1 := 151) rfl (i := 0) rfl dL_isRound_150 rfl ?_
      refine J_iconst (pc1 := 152) dL_isRound_151 rfl ?_
      refine J_iload (pc1 := 154) rfl dL_isRound_152 rfl ?_
      refine J_isubE (pc1 := 155) (z := 0) (by decide) dL_isRound_154 rfl ?_
      refine J_iconst (pc1 := 156) dL_isRound_155 rfl ?_
      refine J_mX (pc1 := 159) gv_L_37 yv_X9_player h11 (m_pl (p := 0) (w := 0) (z := g.1 7 + 0) (Or.inl rfl) (by decide) (p7b)) dL_isRound_156 rfl rfl rfl (by omega) (by decide) (by omega) (by omega) (Nat.le_of_ble_eq_true rfl) (fun S12 h12 => ?_)
      refine J_iload (pc1 := 161) rfl dL_isRound_159 rfl ?_
      refine J_iload (pc1 := 163) rfl dL_isRound_161 rfl ?_
      refine J_if_eq (pc1 := 166) (tgt := 170) (by decide) (by decide) dL_isRound_163 rfl rfl (fun hc3 => ?_) (fun hc3 => ?_)
      · exact absurd hc3 (by decide)
      · refine J_iconst (pc1 := 167) dL_isRound_166 rfl ?_
        refine J_goto (tgt := 172) dL_isRound_167 rfl ?_
        refine J_iadd (pc1 := 173) dL_isRound_172 rfl ?_
        refine J_neS (pc1 := 176) (tgt := 266) dL_isRound_173 rfl rfl (by first | rfl | omega) ?_
        refine J_aload_n (pc1 := 177) rfl (i := 0) rfl dL_isRound_176 rfl ?_
        refine J_bipush (pc1 := 179) (by decide) dL_isRound_177 rfl ?_
        refine J_mX (pc1 := 182) gv_L_23 yv_X9_count h12 (m_cn (w := 8) (z := g.1 17 + prF g.1 b a) (by decide) ((by rw [cz8]; exact p17b))) dL_isRound_179 rfl rfl rfl (by omega) (by decide) (by omega) (by omega) (Nat.le_of_ble_eq_true rfl) (fun S13 h13 => ?_)
        refine J_iload (pc1 := 184) rfl dL_isRound_182 rfl ?_
        refine J_iload (pc1 := 186) rfl dL_isRound_184 rfl ?_
        refine J_if_eq (pc1 := 189) (tgt := 194) (by decide) (by decide) dL_isRound_186 rfl rfl (fun hc4 => ?_) (fun hc4 => ?_)
        · exact absurd hc4 (by decide)
        · refine J_iload (pc1 := 191) rfl dL_isRound_189 rfl ?_
          refine J_goto (tgt := 195) dL_isRound_191 rfl ?_
          refine J_iadd (pc1 := 196) dL_isRound_195 rfl ?_
          refine J_neS (pc1 := 199) (tgt := 266) dL_isRound_196 rfl rfl (by first | rfl | omega) ?_
          refine J_aload_n (pc1 := 200) rfl (i := 0) rfl dL_isRound_199 rfl ?_
          refine J_iload (pc1 := 202) rfl dL_isRound_200 rfl ?_
          refine J_iconst (pc1 := 203) dL_isRound_202 rfl ?_
          refine J_mX (pc1 := 206) gv_L_37 yv_X9_player h13 (m_pl (p := 1) (w := 3) (z := g.1 12 + prF g.1 b a) (Or.inr rfl) (by decide) (p12)) dL_isRound_203 rfl rfl rfl (by omega) (by decide) (by omega) (by omega) (Nat.le_of_ble_eq_true rfl) (fun S14 h14 => ?_)
          refine J_iload (pc1 := 208) rfl dL_isRound_206 rfl ?_
          refine J_iload (pc1 := 210) rfl dL_isRound_208 rfl ?_
          refine J_iadd (pc1 := 211) dL_isRound_210 rfl ?_
          refine J_neS (pc1 := 214) (tgt := 266) dL_isRound_211 rfl rfl (by first | rfl | omega) ?_
          refine J_aload_n (pc1 := 215) rfl (i := 0) rfl dL_isRound_214 rfl ?_
          refine J_iload (pc1 := 217) rfl dL_isRound_215 rfl ?_
          refine J_iconst (pc1 := 218) dL_isRound_217 rfl ?_
          refine J_mX (pc1 := 221) gv_L_37 yv_X9_player h14 (m_pl (p := 1) (w := 4) (z := g.1 14 + 1) (Or.inr rfl) (by decide) (p14)) dL_isRound_218 rfl rfl rfl (by omega) (by decide) (by omega) (by omega) (Nat.le_of_ble_eq_true rfl) (fun S15 h15 => ?_)
          refine J_iload (pc1 := 223) rfl dL_isRound_221 rfl ?_
          refine J_iconst (pc1 := 224) dL_isRound_223 rfl ?_
          refine J_iadd (pc1 := 225) dL_isRound_224 rfl ?_
          refine J_neS (pc1 := 228) (tgt := 266) dL_isRound_225 rfl rfl (by first | rfl | omega) ?_
          refine J_aload_n (pc1 := 229) rfl (i := 0) rfl dL_isRound_228 rfl ?_
          refine J_iconst (pc1 := 230) dL_isRound_229 rfl ?_
          refine J_mX (pc1 := 233) gv_L_23 yv_X9_count h15 (m_cn (w := 4) (z := g.1 4 + -1) (by decide) (p4)) dL_isRound_230 rfl rfl rfl (by omega) (by decide) (by omega) (by omega) (Nat.le_of_ble_eq_true rfl) (fun S16 h16 => ?_)
          refine J_iload (pc1 := 235) rfl dL_isRound_233 rfl ?_
          refine J_iload (pc1 := 237) rfl dL_isRound_235 rfl ?_
          refine J_if_ne (pc1 := 240) (tgt := 244) (by decide) (by decide) dL_isRound_237 rfl rfl (fun hc5 => ?_) (fun hc5 => ?_)
          · refine J_iconst (pc1 := 245) dL_isRound_244 rfl ?_
            refine J_iadd (pc1 := 246) dL_isRound_245 rfl ?_
            refine J_neS (pc1 := 249) (tgt := 266) dL_isRound_246 rfl rfl (by first | rfl | omega) ?_
            refine J_aload_n (pc1 := 250) rfl (i := 0) rfl dL_isRound_249 rfl ?_
            refine J_bipush (pc1 := 252) (by decide) dL_isRound_250 rfl ?_
            refine J_mX (pc1 := 255) gv_L_23 yv_X9_count h16 (m_cn (w := 6) (z := g.1 6 + 1) (by decide) (p6)) dL_isRound_252 rfl rfl rfl (by omega) (by decide) (by omega) (by omega) (Nat.le_of_ble_eq_true rfl) (fun S17 h17 => ?_)
            refine J_iload (pc1 := 257) rfl dL_isRound_255 rfl ?_
            refine J_iconst (pc1 := 258) dL_isRound_257 rfl ?_
            refine J_iadd (pc1 := 259) dL_isRound_258 rfl ?_
            refine J_neS (pc1 := 262) (tgt := 266) dL_isRound_259 rfl rfl (by first | rfl | omega) ?_
            refine J_iconst (pc1 := 263) dL_isRound_262 rfl ?_
            refine J_goto (tgt := 267) dL_isRound_263 rfl ?_
            refine J_istore (pc1 := 269) (L1 := [some (.ref (A 0)), some (.int (iI b)), some (.int (iI a)), some (.int (iI (g.1 5))), some (.int (iI 1)), some (.int (iI (prF g.1 b a))), some (.int (iI (g.1 8))), some (.int (iI (g.1 7))), some (.int (iI (g.1 12))), some (.int (iI (g.1 14))), some (.int (iI (g.1 4))), some (.int (iI (g.1 6))), some (.int (iI (g.1 17))), some (.int (iI (g.1 15 + g.1 16))), some (.int (iI 1)), some (.int (iI 1)), none]) dL_isRound_267 rfl (by decide) rfl rfl ?_
            refine J_aload_n (pc1 := 270) rfl (i := 0) rfl dL_isRound_269 rfl ?_
            refine J_iconst (pc1 := 271) dL_isRound_270 rfl ?_
            refine J_mX (pc1 := 274) gv_L_23 yv_X9_count h17 (m_cn (w := 4) (z := g.1 4 + -1) (by decide) (p4)) dL_isRound_271 rfl rfl rfl (by omega) (by decide) (by omega) (by omega) (Nat.le_of_ble_eq_true rfl) (fun S18 h18 => ?_)
            refine J_aload_n (pc1 := 275) rfl (i := 0) rfl dL_isRound_274 rfl ?_
            refine J_iconst (pc1 := 276) dL_isRound_275 rfl ?_
            refine J_mX (pc1 := 279) gv_L_23 yv_X9_count h18 (m_cn (w := 0) (z := g.1 0) (by decide) (p0)) dL_isRound_276 rfl rfl rfl (by omega) (by decide) (by omega) (by omega) (Nat.le_of_ble_eq_true rfl) (fun S19 h19 => ?_)
            refine J_icmp_eq (pc1 := 282) (tgt := 296) (by omega) (by omega) (by omega) (by omega) dL_isRound_279 rfl rfl (fun hc6 => ?_) (fun hc6 => ?_)
            · exact absurd hc6 (by omega)
            · refine J_aload_n (pc1 := 283) rfl (i := 0) rfl dL_isRound_282 rfl ?_
              refine J_iconst (pc1 := 284) dL_isRound_283 rfl ?_
              refine J_mX (pc1 := 287) gv_L_23 yv_X9_count h19 (m_cn (w := 4) (z := g.1 4 + -1) (by decide) (p4)) dL_isRound_284 rfl rfl rfl (by omega) (by decide) (by omega) (by omega) (Nat.le_of_ble_eq_true rfl) (fun S20 h20 => ?_)
              refine J_aload_n (pc1 := 288) rfl (i := 0) rfl dL_isRound_287 rfl ?_
              refine J_iconst (pc1 := 289) dL_isRound_288 rfl ?_
              refine J_mX (pc1 := 292) gv_L_23 yv_X9_count h20 (m_cn (w := 0) (z := g.1 0) (by decide) (p0)) dL_isRound_289 rfl rfl rfl (by omega) (by decide) (by omega) (by omega) (Nat.le_of_ble_eq_true rfl) (fun S21 h21 => ?_)
              refine J_ineg (pc1 := 293) dL_isRound_292 rfl ?_
              refine J_icmp_ne (pc1 := 296) (tgt := 300) (by omega) (by omega) (by omega) (by omega) dL_isRound_293 rfl rfl (fun hc7 => ?_) (fun hc7 => ?_)
              · refine J_iconst (pc1 := 301) dL_isRound_300 rfl ?_
                refine J_istore (pc1 := 303) (L1 := [some (.ref (A 0)), some (.int (iI b)), some (.int (iI a)), some (.int (iI (g.1 5))), some (.int (iI 1)), some (.int (iI (prF g.1 b a))), some (.int (iI (g.1 8))), some (.int (iI (g.1 7))), some (.int (iI (g.1 12))), some (.int (iI (g.1 14))), some (.int (iI (g.1 4))), some (.int (iI (g.1 6))), some (.int (iI (g.1 17))), some (.int (iI (g.1 15 + g.1 16))), some (.int (iI 1)), some (.int (iI 1)), some (.int (iI 0))]) dL_isRound_301 rfl (by decide) rfl rfl ?_
                refine J_iload (pc1 := 305) rfl dL_isRound_303 rfl ?_
                refine J_if_eq (pc1 := 308) (tgt := 394) (by decide) (by decide) dL_isRound_305 rfl rfl (fun hc8 => ?_) (fun hc8 => ?_)
                · exact absurd hc8 (by decide)
                · refine J_aload_n (pc1 := 309) rfl (i := 0) rfl dL_isRound_308 rfl ?_
                  refine J_bipush (pc1 := 311) (by decide) dL_isRound_309 rfl ?_
                  refine J_mX (pc1 := 314) gv_L_23 yv_X9_count h21 (m_cn (w := 9) (z := g.1 15 + g.1 16 + 0) (by decide) (cz9.trans (wn1_0 ok hw ht hc7).1)) dL_isRound_311 rfl rfl rfl (by omega) (by decide) (by omega) (by omega) (Nat.le_of_ble_eq_true rfl) (fun S22 h22 => ?_)
                  refine J_iload (pc1 := 316) rfl dL_isRound_314 rfl ?_
                  refine J_iload (pc1 := 318) rfl dL_isRound_316 rfl ?_
                  refine J_if_eq (pc1 := 321) (tgt := 325) (by decide) (by decide) dL_isRound_318 rfl rfl (fun hc9 => ?_) (fun hc9 => ?_)
                  · refine J_iconst (pc1 := 326) dL_isRound_325 rfl ?_
                    refine J_iadd (pc1 := 327) dL_isRound_326 rfl ?_
                    refine J_neS (pc1 := 330) (tgt := 394) dL_isRound_327 rfl rfl (by first | rfl | omega) ?_
                    refine J_aload_n (pc1 := 331) rfl (i := 0) rfl dL_isRound_330 rfl ?_
                    refine J_bipush (pc1 := 333) (by decide) dL_isRound_331 rfl ?_
                    refine J_mX (pc1 := 336) gv_L_23 yv_X9_count h22 (m_cn (w := 7) (z := (-1006)) (by decide) (cz7.trans (wn1_0 ok hw ht hc7).2)) dL_isRound_333 rfl rfl rfl (by omega) (by decide) (by omega) (by omega) (Nat.le_of_ble_eq_true rfl) (fun S23 h23 => ?_)
                    refine J_iload (pc1 := 338) rfl dL_isRound_336 rfl ?_
                    refine J_if_eq (pc1 := 341) (tgt := 346) (by decide) (by decide) dL_isRound_338 rfl rfl (fun hc10 => ?_) (fun hc10 => ?_)
                    · refine J_sipush (pc1 := 349) (by decide) dL_isRound_346 rfl ?_
                      refine J_icmp_ne (pc1 := 352) (tgt := 394) (by decide) (by decide) (by decide) (by decide) dL_isRound_349 rfl rfl (fun hc11 => ?_) (fun hc11 => ?_)
                      · exact absurd hc11 (by decide)
                      · refine J_aload_n (pc1 := 353) rfl (i := 0) rfl dL_isRound_352 rfl ?_
                        refine J_iconst (pc1 := 354) dL_isRound_353 rfl ?_
                        refine J_mX (pc1 := 357) gv_L_23 yv_X9_count h23 (m_cn (w := 5) (z := 1 - g.1 5) (by decide) ((cz5 (wn1_0 ok hw ht hc7).2).trans p5)) dL_isRound_354 rfl rfl rfl (by omega) (by decide) (by omega) (by omega) (Nat.le_of_ble_eq_true rfl) (fun S24 h24 => ?_)
                        refine J_iload (pc1 := 359) rfl dL_isRound_357 rfl ?_
                        refine J_if_eq (pc1 := 362) (tgt := 368) (by decide) (by decide) dL_isRound_359 rfl rfl (fun hc12 => ?_) (fun hc12 => ?_)
                        · refine J_iconst (pc1 := 369) dL_isRound_368 rfl ?_
                          refine J_iload_n (pc1 := 370) rfl (i := 3) rfl dL_isRound_369 rfl ?_
                          refine J_isub (pc1 := 371) dL_isRound_370 rfl ?_
                          refine J_neS (pc1 := 374) (tgt := 394) dL_isRound_371 rfl rfl (by first | rfl | omega) ?_
                          refine J_aload_n (pc1 := 375) rfl (i := 0) rfl dL_isRound_374 rfl ?_
                          refine J_iload (pc1 := 377) rfl dL_isRound_375 rfl ?_
                          refine J_iconst (pc1 := 378) dL_isRound_377 rfl ?_
                          refine J_mX (pc1 := 381) gv_L_37 yv_X9_player h24 (m_pl (p := 1) (w := 0) (z := g.1 8 - prF g.1 b a) (Or.inr rfl) (by decide) (p8)) dL_isRound_378 rfl rfl rfl (by omega) (by decide) (by omega) (by omega) (Nat.le_of_ble_eq_true rfl) (fun S25 h25 => ?_)
                          refine J_aload_n (pc1 := 382) rfl (i := 0) rfl dL_isRound_381 rfl ?_
                          refine J_iconst (pc1 := 383) dL_isRound_382 rfl ?_
                          refine J_mX (pc1 := 386) gv_L_23 yv_X9_count h25 (m_cn (w := 1) (z := g.1 1) (by decide) (p1)) dL_isRound_383 rfl rfl rfl (by omega) (by decide) (by omega) (by omega) (Nat.le_of_ble_eq_true rfl) (fun S26 h26 => ?_)
                          refine J_ineg (pc1 := 387) dL_isRound_386 rfl ?_
                          refine J_icmp_lt (pc1 := 390) (tgt := 394) (by omega) (by omega) (by omega) (by omega) dL_isRound_387 rfl rfl (fun hc13 => ?_) (fun hc13 => ?_)
                          · exact absurd hc13 (by omega)
                          · refine J_iconst (pc1 := 391) dL_isRound_390 rfl ?_
                            refine J_goto (tgt := 395) dL_isRound_391 rfl ?_
                            exact J_iret rfl rfl dL_isRound_395 (by omega) (by omega) (kIS_mk rfl h26)
                        · exact absurd hc12 (by decide)
                    · exact absurd hc10 (by decide)
                  · exact absurd hc9 (by decide)
              · refine J_iconst (pc1 := 297) dL_isRound_296 rfl ?_
                refine J_goto (tgt := 301) dL_isRound_297 rfl ?_
                refine J_istore (pc1 := 303) (L1 := [some (.ref (A 0)), some (.int (iI b)), some (.int (iI a)), some (.int (iI (g.1 5))), some (.int (iI 1)), some (.int (iI (prF g.1 b a))), some (.int (iI (g.1 8))), some (.int (iI (g.1 7))), some (.int (iI (g.1 12))), some (.int (iI (g.1 14))), some (.int (iI (g.1 4))), some (.int (iI (g.1 6))), some (.int (iI (g.1 17))), some (.int (iI (g.1 15 + g.1 16))), some (.int (iI 1)), some (.int (iI 1)), some (.int (iI 1))]) dL_isRound_301 rfl (by decide) rfl rfl ?_
                refine J_iload (pc1 := 305) rfl dL_isRound_303 rfl ?_
                refine J_if_eq (pc1 := 308) (tgt := 394) (by decide) (by decide) dL_isRound_305 rfl rfl (fun hc14 => ?_) (fun hc14 => ?_)
                · exact absurd hc14 (by decide)
                · refine J_aload_n (pc1 := 309) rfl (i := 0) rfl dL_isRound_308 rfl ?_
                  refine J_bipush (pc1 := 311) (by decide) dL_isRound_309 rfl ?_
                  refine J_mX (pc1 := 314) gv_L_23 yv_X9_count h21 (m_cn (w := 9) (z := g.1 15 + g.1 16 + 1) (by decide) (cz9.trans (wn1_1 ok ht hc7).1)) dL_isRound_311 rfl rfl rfl (by omega) (by decide) (by omega) (by omega) (Nat.le_of_ble_eq_true rfl) (fun S27 h27 => ?_)
                  refine J_iload (pc1 := 316) rfl dL_isRound_314 rfl ?_
                  refine J_iload (pc1 := 318) rfl dL_isRound_316 rfl ?_
                  refine J_if_eq (pc1 := 321) (tgt := 325) (by decide) (by decide) dL_isRound_318 rfl rfl (fun hc15 => ?_) (fun hc15 => ?_)
                  · exact absurd hc15 (by decide)
                  · refine J_iconst (pc1 := 322) dL_isRound_321 rfl ?_
                    refine J_goto (tgt := 326) dL_isRound_322 rfl ?_
                    refine J_iadd (pc1 := 327) dL_isRound_326 rfl ?_
                    refine J_neS (pc1 := 330) (tgt := 394) dL_isRound_327 rfl rfl (by first | rfl | omega) ?_
                    refine J_aload_n (pc1 := 331) rfl (i := 0) rfl dL_isRound_330 rfl ?_
                    refine J_bipush (pc1 := 333) (by decide) dL_isRound_331 rfl ?_
                    refine J_mX (pc1 := 336) gv_L_23 yv_X9_count h27 (m_cn (w := 7) (z := 1) (by decide) (cz7.trans (wn1_1 ok ht hc7).2)) dL_isRound_333 rfl rfl rfl (by omega) (by decide) (by omega) (by omega) (Nat.le_of_ble_eq_true rfl) (fun S28 h28 => ?_)
                    refine J_iload (pc1 := 338) rfl dL_isRound_336 rfl ?_
                    refine J_if_eq (pc1 := 341) (tgt := 346) (by decide) (by decide) dL_isRound_338 rfl rfl (fun hc16 => ?_) (fun hc16 => ?_)
                    · exact absurd hc16 (by decide)
                    · refine J_iload (pc1 := 343) rfl dL_isRound_341 rfl ?_
                      refine J_goto (tgt := 349) dL_isRound_343 rfl ?_
                      refine J_icmp_ne (pc1 := 352) (tgt := 394) (by decide) (by decide) (by decide) (by decide) dL_isRound_349 rfl rfl (fun hc17 => ?_) (fun hc17 => ?_)
                      · exact absurd hc17 (by decide)
                      · refine J_aload_n (pc1 := 353) rfl (i := 0) rfl dL_isRound_352 rfl ?_
                        refine J_iconst (pc1 := 354) dL_isRound_353 rfl ?_
                        refine J_mX (pc1 := 357) gv_L_23 yv_X9_count h28 (m_cn (w := 5) (z := (-1006)) (by decide) (cz5x (by rw [(wn1_1 ok ht hc7).2]; decide))) dL_isRound_354 rfl rfl rfl (by omega) (by decide) (by omega) (by omega) (Nat.le_of_ble_eq_true rfl) (fun S29 h29 => ?_)
                        refine J_iload (pc1 := 359) rfl dL_isRound_357 rfl ?_
                        refine J_if_eq (pc1 := 362) (tgt := 368) (by decide) (by decide) dL_isRound_359 rfl rfl (fun hc18 => ?_) (fun hc18 => ?_)
                        · exact absurd hc18 (by decide)
                        · refine J_sipush (pc1 := 365) (by decide) dL_isRound_362 rfl ?_
                          refine J_goto (tgt := 371) dL_isRound_365 rfl ?_
                          refine J_neS (pc1 := 374) (tgt := 394) dL_isRound_371 rfl rfl (by first | rfl | omega) ?_
                          refine J_aload_n (pc1 := 375) rfl (i := 0) rfl dL_isRound_374 rfl ?_
                          refine J_iload (pc1 := 377) rfl dL_isRound_375 rfl ?_
                          refine J_iconst (pc1 := 378) dL_isRound_377 rfl ?_
                          refine J_mX (pc1 := 381) gv_L_37 yv_X9_player h29 (m_pl (p := 1) (w := 0) (z := g.1 8 - prF g.1 b a) (Or.inr rfl) (by decide) (p8)) dL_isRound_378 rfl rfl rfl (by omega) (by decide) (by omega) (by omega) (Nat.le_of_ble_eq_true rfl) (fun S30 h30 => ?_)
                          refine J_aload_n (pc1 := 382) rfl (i := 0) rfl dL_isRound_381 rfl ?_
                          refine J_iconst (pc1 := 383) dL_isRound_382 rfl ?_
                          refine J_mX (pc1 := 386) gv_L_23 yv_X9_count h30 (m_cn (w := 1) (z := g.1 1) (by decide) (p1)) dL_isRound_383 rfl rfl rfl (by omega) (by decide) (by omega) (by omega) (Nat.le_of_ble_eq_true rfl) (fun S31 h31 => ?_)
                          refine J_ineg (pc1 := 387) dL_isRound_386 rfl ?_
                          refine J_icmp_lt (pc1 := 390) (tgt := 394) (by omega) (by omega) (by omega) (by omega) dL_isRound_387 rfl rfl (fun hc19 => ?_) (fun hc19 => ?_)
                          · exact absurd hc19 (by omega)
                          · refine J_iconst (pc1 := 391) dL_isRound_390 rfl ?_
                            refine J_goto (tgt := 395) dL_isRound_391 rfl ?_
                            exact J_iret rfl rfl dL_isRound_395 (by omega) (by omega) (kIS_mk rfl h31)
          · exact absurd hc5 (by decide)
set_option maxHeartbeats 2000000 in
set_option maxRecDepth 20000 in
theorem m_isRound {g : GS} {tx : Int → Int} {L : Nat} {b a : Int} (hb : 0 ≤ b ∧ b ≤ 14) (ha : 0 ≤ a ∧ a ≤ 14) (hal : alF g.1 b a) : MC yL_isRound cL_isRound 17 (some .boolean) 9 40 11800 [.int (iI b), .int (iI a), .int (iI (g.1 5))] g tx L 1 (chg g (plF g.1 b a)) tx L := by
  intro A S hX
  have o3 := hX.2.1.1.2.2.2.1
  have o5 := hX.2.1.1.2.2.2.2.2.1
  refine Ct.ofJ (by decide +kernel) (Nat.le_of_ble_eq_true rfl) ?_
  refine J_L (L1 := [some (.ref (A 0)), some (.int (iI b)), some (.int (iI a)), some (.int (iI (g.1 5))), none, none, none, none, none, none, none, none, none, none, none, none, none]) rfl ?_
  have k4 : ∀ S, XT S A g tx L → Jd yL_isRound cL_isRound 17 (some .boolean) 9 40 11800 (kIS 1 (fun T => XT T A (chg g (plF g.1 b a)) tx L)) 0 0 S 39 [some (.ref (A 0)), some (.int (iI b)), some (.int (iI a)), some (.int (iI (g.1 5))), some (.int (iI (tkF g.1 b a))), some (.int (iI (prF g.1 b a))), none, none, none, none, none, none, none, none, none, none, none] [] := by
    intro S hX
    rcases tkF_b hX.2.1.1 b a with ht | ht
    · rw [ht]
      rcases hX.2.1.1.2.2.1 with hps | hps
      · exact ir_00 hb ha hal ht hps S hX
      · exact ir_01 hb ha hal ht hps S hX
    · rw [ht]
      rcases hX.2.1.1.2.2.1 with hps | hps
      · exact ir_10 hb ha hal ht hps S hX
      · exact ir_11 hb ha hal ht hps S hX
  have k3 : ∀ S, XT S A g tx L → Jd yL_isRound cL_isRound 17 (some .boolean) 9 40 11800 (kIS 1 (fun T => XT T A (chg g (plF g.1 b a)) tx L)) 0 0 S 37 [some (.ref (A 0)), some (.int (iI b)), some (.int (iI a)), some (.int (iI (g.1 5))), some (.int (iI (tkF g.1 b a))), none, none, none, none, none, none, none, none, none, none, none, none] [.int (iI (prF g.1 b a))] := by
    intro S hX
    refine J_istore (pc1 := 39) (L1 := [some (.ref (A 0)), some (.int (iI b)), some (.int (iI a)), some (.int (iI (g.1 5))), some (.int (iI (tkF g.1 b a))), some (.int (iI (prF g.1 b a))), none, none, none, none, none, none, none, none, none, none, none]) dL_isRound_37 rfl (by decide) rfl rfl ?_
    exact k4 S hX
  have hpr : prF g.1 b a = (if a < b then b else a) := by
    unfold prF tkF
    have := hX.2.1.1.2.2.2.2.2.1
    by_cases h1 : a < b
    · rw [if_pos (Or.inl h1), if_pos rfl, if_pos h1]
    · by_cases h2 : b = a ∧ g.1 3 = 0
      · rw [if_pos (Or.inr h2), if_pos rfl, if_neg h1]; exact h2.1
      · have hn : ¬ (a < b ∨ (b = a ∧ g.1 3 = 0)) := fun z => z.elim h1 h2
        rw [if_neg hn, if_neg (show ¬ 1 - g.1 5 = g.1 5 by omega), if_neg h1]
  have k2 : ∀ S, XT S A g tx L → Jd yL_isRound cL_isRound 17 (some .boolean) 9 40 11800 (kIS 1 (fun T => XT T A (chg g (plF g.1 b a)) tx L)) 0 0 S 25 [some (.ref (A 0)), some (.int (iI b)), some (.int (iI a)), some (.int (iI (g.1 5))), none, none, none, none, none, none, none, none, none, none, none, none, none] [.int (iI (tkF g.1 b a))] := by
    intro S hX
    refine J_istore (pc1 := 27) (L1 := [some (.ref (A 0)), some (.int (iI b)), some (.int (iI a)), some (.int (iI (g.1 5))), some (.int (iI (tkF g.1 b a))), none, none, none, none, none, none, none, none, none, none, none, none]) dL_isRound_25 rfl (by decide) rfl rfl ?_
    refine J_iload_n (pc1 := 28) rfl (i := 1) rfl dL_isRound_27 rfl ?_
    refine J_iload_n (pc1 := 29) rfl (i := 2) rfl dL_isRound_28 rfl ?_
    refine J_icmp_le (pc1 := 32) (tgt := 36) (by omega) (by omega) (by omega) (by omega) dL_isRound_29 rfl rfl (fun hc1 => ?_) (fun hc1 => ?_)
    · refine J_iload_n (pc1 := 37) rfl (i := 2) rfl dL_isRound_36 rfl ?_
      refine J_st (st1 := [.int (iI (prF g.1 b a))]) (by rw [hpr]; first | rw [if_pos (by omega)] | rw [if_neg (by omega)]) ?_
      exact k3 _ hX
    · refine J_iload_n (pc1 := 33) rfl (i := 1) rfl dL_isRound_32 rfl ?_
      refine J_goto (tgt := 37) dL_isRound_33 rfl ?_
      refine J_st (st1 := [.int (iI (prF g.1 b a))]) (by rw [hpr]; first | rw [if_pos (by omega)] | rw [if_neg (by omega)]) ?_
      exact k3 _ hX
  refine J_iload_n (pc1 := 1) rfl (i := 1) rfl dL_isRound_0 rfl ?_
  refine J_iload_n (pc1 := 2) rfl (i := 2) rfl dL_isRound_1 rfl ?_
  refine J_icmp_gt (pc1 := 5) (tgt := 18) (by omega) (by omega) (by omega) (by omega) dL_isRound_2 rfl rfl (fun hc1 => ?_) (fun hc1 => ?_)
  · refine J_iload_n (pc1 := 19) rfl (i := 3) rfl dL_isRound_18 rfl ?_
    refine J_goto (tgt := 25) dL_isRound_19 rfl ?_
    refine J_st (st1 := [.int (iI (tkF g.1 b a))]) (by unfold tkF; first | rw [if_pos (by omega)] | rw [if_neg (by omega)]) ?_
    exact J_w (by omega) (by omega) (k2 _ hX)
  · refine J_iload_n (pc1 := 6) rfl (i := 1) rfl dL_isRound_5 rfl ?_
    refine J_iload_n (pc1 := 7) rfl (i := 2) rfl dL_isRound_6 rfl ?_
    refine J_icmp_ne (pc1 := 10) (tgt := 22) (by omega) (by omega) (by omega) (by omega) dL_isRound_7 rfl rfl (fun hc2 => ?_) (fun hc2 => ?_)
    · refine J_iconst (pc1 := 23) dL_isRound_22 rfl ?_
      refine J_iload_n (pc1 := 24) rfl (i := 3) rfl dL_isRound_23 rfl ?_
      refine J_isub (pc1 := 25) dL_isRound_24 rfl ?_
      refine J_st (st1 := [.int (iI (tkF g.1 b a))]) (by unfold tkF; first | rw [if_pos (by omega)] | rw [if_neg (by omega)]) ?_
      exact J_w (by omega) (by omega) (k2 _ hX)
    · refine J_aload_n (pc1 := 11) rfl (i := 0) rfl dL_isRound_10 rfl ?_
      refine J_iconst (pc1 := 12) dL_isRound_11 rfl ?_
      refine J_mX (pc1 := 15) gv_L_23 yv_X9_count hX (m_cn (w := 3) (z := g.1 3) (by decide) rfl) dL_isRound_12 rfl rfl rfl (by omega) (by decide) (by omega) (by omega) (Nat.le_of_ble_eq_true rfl) (fun S1 h1 => ?_)
      refine J_if_ne (pc1 := 18) (tgt := 22) (by omega) (by omega) dL_isRound_15 rfl rfl (fun hc3 => ?_) (fun hc3 => ?_)
      · refine J_iconst (pc1 := 23) dL_isRound_22 rfl ?_
        refine J_iload_n (pc1 := 24) rfl (i := 3) rfl dL_isRound_23 rfl ?_
        refine J_isub (pc1 := 25) dL_isRound_24 rfl ?_
        refine J_st (st1 := [.int (iI (tkF g.1 b a))]) (by unfold tkF; first | rw [if_pos (by omega)] | rw [if_neg (by omega)]) ?_
        exact J_w (by omega) (by omega) (k2 _ h1)
      · refine J_iload_n (pc1 := 19) rfl (i := 3) rfl dL_isRound_18 rfl ?_
        refine J_goto (tgt := 25) dL_isRound_19 rfl ?_
        refine J_st (st1 := [.int (iI (tkF g.1 b a))]) (by unfold tkF; first | rw [if_pos (by omega)] | rw [if_neg (by omega)]) ?_
        exact J_w (by omega) (by omega) (k2 _ h1)
