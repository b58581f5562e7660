/-! 30.law: the law's loops -/
section LAW
variable {bS nS : Nat} {xs : Nat → Int32} {K : Option Value → pS → Prop} {A B : Nat → Nat}
def fiF (f : Int → Int) : Int := if ¬ winF f = -1006 then -1006 else f 5
set_option maxHeartbeats 2000000 in
set_option maxRecDepth 20000 in
theorem law_end (hK : ∀ S, K (some (.int (iI 1))) S) {S : pS} (hI : LI S A B) : JdL bS nS xs yL_law cL_law 5 (some .boolean) 20 600000 7302249 K (60 + 340 * 46) (800 + 107000 * 46) S 82 [some (.ref bS), some (.ref (A 0)), some (.ref (B 0)), some (.int (iI 1)), some (.int (iI ((46 : Nat) : Int)))] [] := by
  obtain ⟨g, tx, l, tx2, l2, hX⟩ := hI
  refine JL_iload_n (pc1 := 83) rfl (i := 3) rfl dL_law_82 rfl ?_
  refine JL_if_eq (pc1 := 86) (tgt := 104) (by decide) (by decide) dL_law_83 rfl rfl (fun hc1 => ?_) (fun hc1 => ?_)
  · exact absurd hc1 (by decide)
  · refine JL_aload_n (pc1 := 87) rfl (i := 1) rfl dL_law_86 rfl ?_
    refine JL_sA (pc1 := 90) gs_L_96 yv_L_isWell hX (m_isWell) dL_law_87 rfl rfl rfl (by omega) (by decide) (by omega) (by omega) (Nat.le_of_ble_eq_true rfl) (fun S1 h1 => ?_)
    refine JL_if_eq (pc1 := 93) (tgt := 104) (by decide) (by decide) dL_law_90 rfl rfl (fun hc2 => ?_) (fun hc2 => ?_)
    · exact absurd hc2 (by decide)
    · refine JL_aload_n (pc1 := 94) rfl (i := 2) rfl dL_law_93 rfl ?_
      refine JL_sB (pc1 := 97) gs_L_96 yv_L_isWell h1 (m_isWell) dL_law_94 rfl rfl rfl (by omega) (by decide) (by omega) (by omega) (Nat.le_of_ble_eq_true rfl) (fun S2 h2 => ?_)
      refine JL_if_eq (pc1 := 100) (tgt := 104) (by decide) (by decide) dL_law_97 rfl rfl (fun hc3 => ?_) (fun hc3 => ?_)
      · exact absurd hc3 (by decide)
      · refine JL_iconst (pc1 := 101) dL_law_100 rfl ?_
        refine JL_goto (tgt := 105) dL_law_101 rfl ?_
        refine JL_istore_n (pc1 := 106) (L1 := [some (.ref bS), some (.ref (A 0)), some (.ref (B 0)), some (.int (iI 1)), some (.int (iI ((46 : Nat) : Int)))]) rfl (i := 3) dL_law_105 rfl (by decide) rfl rfl ?_
        refine JL_iconst (pc1 := 107) dL_law_106 rfl ?_
        refine JL_istore (pc1 := 109) (L1 := [some (.ref bS), some (.ref (A 0)), some (.ref (B 0)), some (.int (iI 1)), some (.int (iI 0))]) dL_law_107 rfl (by decide) rfl rfl ?_
        refine JL_iload (pc1 := 111) rfl dL_law_109 rfl ?_
        refine JL_bipush (pc1 := 113) (by decide) dL_law_111 rfl ?_
        refine JL_icmp_ge (pc1 := 116) (tgt := 188) (by decide) (by decide) (by decide) (by decide) dL_law_113 rfl rfl (fun hc4 => ?_) (fun hc4 => ?_)
        · exact absurd hc4 (by decide)
        · refine JL_iload_n (pc1 := 117) rfl (i := 3) rfl dL_law_116 rfl ?_
          refine JL_if_eq (pc1 := 120) (tgt := 180) (by decide) (by decide) dL_law_117 rfl rfl (fun hc5 => ?_) (fun hc5 => ?_)
          · exact absurd hc5 (by decide)
          · refine JL_aload_n (pc1 := 121) rfl (i := 1) rfl dL_law_120 rfl ?_
            refine JL_iload (pc1 := 123) rfl dL_law_121 rfl ?_
            refine JL_mA (pc1 := 126) gv_L_23 yv_X9_count h2 (m_cn (w := 0) (z := g.1 0) (by decide) rfl) dL_law_123 rfl rfl rfl (by omega) (by decide) (by omega) (by omega) (Nat.le_of_ble_eq_true rfl) (fun S3 h3 => ?_)
            refine JL_aload_n (pc1 := 127) rfl (i := 2) rfl dL_law_126 rfl ?_
            refine JL_iload (pc1 := 129) rfl dL_law_127 rfl ?_
            refine JL_mB (pc1 := 132) gv_L_23 yv_X9_count h3 (m_cn (w := 0) (z := g.1 0) (by decide) rfl) dL_law_129 rfl rfl rfl (by omega) (by decide) (by omega) (by omega) (Nat.le_of_ble_eq_true rfl) (fun S4 h4 => ?_)
            refine JL_neS (pc1 := 135) (tgt := 180) dL_law_132 rfl rfl (rfl) ?_
            refine JL_iload (pc1 := 137) rfl dL_law_135 rfl ?_
            refine JL_bipush (pc1 := 139) (by decide) dL_law_137 rfl ?_
            refine JL_icmp_gt (pc1 := 142) (tgt := 176) (by decide) (by decide) (by decide) (by decide) dL_law_139 rfl rfl (fun hc6 => ?_) (fun hc6 => ?_)
            · exact absurd hc6 (by decide)
            · refine JL_aload_n (pc1 := 143) rfl (i := 1) rfl dL_law_142 rfl ?_
              refine JL_iconst (pc1 := 144) dL_law_143 rfl ?_
              refine JL_iload (pc1 := 146) rfl dL_law_144 rfl ?_
              refine JL_mA (pc1 := 149) gv_L_37 yv_X9_player h4 (m_pl (p := 0) (w := 0) (z := g.1 7) (Or.inl rfl) (by decide) rfl) dL_law_146 rfl rfl rfl (by omega) (by decide) (by omega) (by omega) (Nat.le_of_ble_eq_true rfl) (fun S5 h5 => ?_)
              refine JL_aload_n (pc1 := 150) rfl (i := 2) rfl dL_law_149 rfl ?_
              refine JL_iconst (pc1 := 151) dL_law_150 rfl ?_
              refine JL_iload (pc1 := 153) rfl dL_law_151 rfl ?_
              refine JL_mB (pc1 := 156) gv_L_37 yv_X9_player h5 (m_pl (p := 0) (w := 0) (z := g.1 7) (Or.inl rfl) (by decide) rfl) dL_law_153 rfl rfl rfl (by omega) (by decide) (by omega) (by omega) (Nat.le_of_ble_eq_true rfl) (fun S6 h6 => ?_)
              refine JL_neS (pc1 := 159) (tgt := 180) dL_law_156 rfl rfl (rfl) ?_
              refine JL_aload_n (pc1 := 160) rfl (i := 1) rfl dL_law_159 rfl ?_
              refine JL_iconst (pc1 := 161) dL_law_160 rfl ?_
              refine JL_iload (pc1 := 163) rfl dL_law_161 rfl ?_
              refine JL_mA (pc1 := 166) gv_L_37 yv_X9_player h6 (m_pl (p := 1) (w := 0) (z := g.1 8) (Or.inr rfl) (by decide) rfl) dL_law_163 rfl rfl rfl (by omega) (by decide) (by omega) (by omega) (Nat.le_of_ble_eq_true rfl) (fun S7 h7 => ?_)
              refine JL_aload_n (pc1 := 167) rfl (i := 2) rfl dL_law_166 rfl ?_
              refine JL_iconst (pc1 := 168) dL_law_167 rfl ?_
              refine JL_iload (pc1 := 170) rfl dL_law_168 rfl ?_
              refine JL_mB (pc1 := 173) gv_L_37 yv_X9_player h7 (m_pl (p := 1) (w := 0) (z := g.1 8) (Or.inr rfl) (by decide) rfl) dL_law_170 rfl rfl rfl (by omega) (by decide) (by omega) (by omega) (Nat.le_of_ble_eq_true rfl) (fun S8 h8 => ?_)
              refine JL_neS (pc1 := 176) (tgt := 180) dL_law_173 rfl rfl (rfl) ?_
              refine JL_iconst (pc1 := 177) dL_law_176 rfl ?_
              refine JL_goto (tgt := 181) dL_law_177 rfl ?_
              refine JL_istore_n (pc1 := 182) (L1 := [some (.ref bS), some (.ref (A 0)), some (.ref (B 0)), some (.int (iI 1)), some (.int (iI 0))]) rfl (i := 3) dL_law_181 rfl (by decide) rfl rfl ?_
              refine JL_iinc (pc1 := 185) (L1 := [some (.ref bS), some (.ref (A 0)), some (.ref (B 0)), some (.int (iI 1)), some (.int (iI 1))]) dL_law_182 rfl rfl (by decide) rfl rfl ?_
              refine JL_goto (tgt := 109) dL_law_185 rfl ?_
              refine JL_iload (pc1 := 111) rfl dL_law_109 rfl ?_
              refine JL_bipush (pc1 := 113) (by decide) dL_law_111 rfl ?_
              refine JL_icmp_ge (pc1 := 116) (tgt := 188) (by decide) (by decide) (by decide) (by decide) dL_law_113 rfl rfl (fun hc7 => ?_) (fun hc7 => ?_)
              · exact absurd hc7 (by decide)
              · refine JL_iload_n (pc1 := 117) rfl (i := 3) rfl dL_law_116 rfl ?_
                refine JL_if_eq (pc1 := 120) (tgt := 180) (by decide) (by decide) dL_law_117 rfl rfl (fun hc8 => ?_) (fun hc8 => ?_)
                · exact absurd hc8 (by decide)
                · refine JL_aload_n (pc1 := 121) rfl (i := 1) rfl dL_law_120 rfl ?_
                  refine JL_iload (pc1 := 123) rfl dL_law_121 rfl ?_
                  refine JL_mA (pc1 := 126) gv_L_23 yv_X9_count h8 (m_cn (w := 1) (z := g.1 1) (by decide) rfl) dL_law_123 rfl rfl rfl (by omega) (by decide) (by omega) (by omega) (Nat.le_of_ble_eq_true rfl) (fun S9 h9 => ?_)
                  refine JL_aload_n (pc1 := 127) rfl (i := 2) rfl dL_law_126 rfl ?_
                  refine JL_iload (pc1 := 129) rfl dL_law_127 rfl ?_
                  refine JL_mB (pc1 := 132) gv_L_23 yv_X9_count h9 (m_cn (w := 1) (z := g.1 1) (by decide) rfl) dL_law_129 rfl rfl rfl (by omega) (by decide) (by omega) (by omega) (Nat.le_of_ble_eq_true rfl) (fun S10 h10 => ?_)
                  refine JL_neS (pc1 := 135) (tgt := 180) dL_law_132 rfl rfl (rfl) ?_
                  refine JL_iload (pc1 := 137) rfl dL_law_135 rfl ?_
                  refine JL_bipush (pc1 := 139) (by decide) dL_law_137 rfl ?_
                  refine JL_icmp_gt (pc1 := 142) (tgt := 176) (by decide) (by decide) (by decide) (by decide) dL_law_139 rfl rfl (fun hc9 => ?_) (fun hc9 => ?_)
                  · exact absurd hc9 (by decide)
                  · refine JL_aload_n (pc1 := 143) rfl (i := 1) rfl dL_law_142 rfl ?_
                    refine JL_iconst (pc1 := 144) dL_law_143 rfl ?_
                    refine JL_iload (pc1 := 146) rfl dL_law_144 rfl ?_
                    refine JL_mA (pc1 := 149) gv_L_37 yv_X9_player h10 (m_pl (p := 0) (w := 1) (z := g.1 7 + g.1 1) (Or.inl rfl) (by decide) rfl) dL_law_146 rfl rfl rfl (by omega) (by decide) (by omega) (by omega) (Nat.le_of_ble_eq_true rfl) (fun S11 h11 => ?_)
                    refine JL_aload_n (pc1 := 150) rfl (i := 2) rfl dL_law_149 rfl ?_
                    refine JL_iconst (pc1 := 151) dL_law_150 rfl ?_
                    refine JL_iload (pc1 := 153) rfl dL_law_151 rfl ?_
                    refine JL_mB (pc1 := 156) gv_L_37 yv_X9_player h11 (m_pl (p := 0) (w := 1) (z := g.1 7 + g.1 1) (Or.inl rfl) (by decide) rfl) dL_law_153 rfl rfl rfl (by omega) (by decide) (by omega) (by omega) (Nat.le_of_ble_eq_true rfl) (fun S12 h12 => ?_)
                    refine JL_neS (pc1 := 159) (tgt := 180) dL_law_156 rfl rfl (rfl) ?_
                    refine JL_aload_n (pc1 := 160) rfl (i := 1) rfl dL_law_159 rfl ?_
                    refine JL_iconst (pc1 := 161) dL_law_160 rfl ?_
                    refine JL_iload (pc1 := 163) rfl dL_law_161 rfl ?_
                    refine JL_mA (pc1 := 166) gv_L_37 yv_X9_player h12 (m_pl (p := 1) (w := 1) (z := g.1 8 + g.1 1) (Or.inr rfl) (by decide) rfl) dL_law_163 rfl rfl rfl (by omega) (by decide) (by omega) (by omega) (Nat.le_of_ble_eq_true rfl) (fun S13 h13 => ?_)
                    refine JL_aload_n (pc1 := 167) rfl (i := 2) rfl dL_law_166 rfl ?_
                    refine JL_iconst (pc1 := 168) dL_law_167 rfl ?_
                    refine JL_iload (pc1 := 170) rfl dL_law_168 rfl ?_
                    refine JL_mB (pc1 := 173) gv_L_37 yv_X9_player h13 (m_pl (p := 1) (w := 1) (z := g.1 8 + g.1 1) (Or.inr rfl) (by decide) rfl) dL_law_170 rfl rfl rfl (by omega) (by decide) (by omega) (by omega) (Nat.le_of_ble_eq_true rfl) (fun S14 h14 => ?_)
                    refine JL_neS (pc1 := 176) (tgt := 180) dL_law_173 rfl rfl (rfl) ?_
                    refine JL_iconst (pc1 := 177) dL_law_176 rfl ?_
                    refine JL_goto (tgt := 181) dL_law_177 rfl ?_
                    refine JL_istore_n (pc1 := 182) (L1 := [some (.ref bS), some (.ref (A 0)), some (.ref (B 0)), some (.int (iI 1)), some (.int (iI 1))]) rfl (i := 3) dL_law_181 rfl (by decide) rfl rfl ?_
                    refine JL_iinc (pc1 := 185) (L1 := [some (.ref bS), some (.ref (A 0)), some (.ref (B 0)), some (.int (iI 1)), some (.int (iI 2))]) dL_law_182 rfl rfl (by decide) rfl rfl ?_
                    refine JL_goto (tgt := 109) dL_law_185 rfl ?_
                    refine JL_iload (pc1 := 111) rfl dL_law_109 rfl ?_
                    refine JL_bipush (pc1 := 113) (by decide) dL_law_111 rfl ?_
                    refine JL_icmp_ge (pc1 := 116) (tgt := 188) (by decide) (by decide) (by decide) (by decide) dL_law_113 rfl rfl (fun hc10 => ?_) (fun hc10 => ?_)
                    · exact absurd hc10 (by decide)
                    · refine JL_iload_n (pc1 := 117) rfl (i := 3) rfl dL_law_116 rfl ?_
                      refine JL_if_eq (pc1 := 120) (tgt := 180) (by decide) (by decide) dL_law_117 rfl rfl (fun hc11 => ?_) (fun hc11 => ?_)
                      · exact absurd hc11 (by decide)
                      · refine JL_aload_n (pc1 := 121) rfl (i := 1) rfl dL_law_120 rfl ?_
                        refine JL_iload (pc1 := 123) rfl dL_law_121 rfl ?_
                        refine JL_mA (pc1 := 126) gv_L_23 yv_X9_count h14 (m_cn (w := 2) (z := g.1 2) (by decide) rfl) dL_law_123 rfl rfl rfl (by omega) (by decide) (by omega) (by omega) (Nat.le_of_ble_eq_true rfl) (fun S15 h15 => ?_)
                        refine JL_aload_n (pc1 := 127) rfl (i := 2) rfl dL_law_126 rfl ?_
                        refine JL_iload (pc1 := 129) rfl dL_law_127 rfl ?_
                        refine JL_mB (pc1 := 132) gv_L_23 yv_X9_count h15 (m_cn (w := 2) (z := g.1 2) (by decide) rfl) dL_law_129 rfl rfl rfl (by omega) (by decide) (by omega) (by omega) (Nat.le_of_ble_eq_true rfl) (fun S16 h16 => ?_)
                        refine JL_neS (pc1 := 135) (tgt := 180) dL_law_132 rfl rfl (rfl) ?_
                        refine JL_iload (pc1 := 137) rfl dL_law_135 rfl ?_
                        refine JL_bipush (pc1 := 139) (by decide) dL_law_137 rfl ?_
                        refine JL_icmp_gt (pc1 := 142) (tgt := 176) (by decide) (by decide) (by decide) (by decide) dL_law_139 rfl rfl (fun hc12 => ?_) (fun hc12 => ?_)
                        · exact absurd hc12 (by decide)
                        · refine JL_aload_n (pc1 := 143) rfl (i := 1) rfl dL_law_142 rfl ?_
                          refine JL_iconst (pc1 := 144) dL_law_143 rfl ?_
                          refine JL_iload (pc1 := 146) rfl dL_law_144 rfl ?_
                          refine JL_mA (pc1 := 149) gv_L_37 yv_X9_player h16 (m_pl (p := 0) (w := 2) (z := g.1 9) (Or.inl rfl) (by decide) rfl) dL_law_146 rfl rfl rfl (by omega) (by decide) (by omega) (by omega) (Nat.le_of_ble_eq_true rfl) (fun S17 h17 => ?_)
                          refine JL_aload_n (pc1 := 150) rfl (i := 2) rfl dL_law_149 rfl ?_
                          refine JL_iconst (pc1 := 151) dL_law_150 rfl ?_
                          refine JL_iload (pc1 := 153) rfl dL_law_151 rfl ?_
                          refine JL_mB (pc1 := 156) gv_L_37 yv_X9_player h17 (m_pl (p := 0) (w := 2) (z := g.1 9) (Or.inl rfl) (by decide) rfl) dL_law_153 rfl rfl rfl (by omega) (by decide) (by omega) (by omega) (Nat.le_of_ble_eq_true rfl) (fun S18 h18 => ?_)
                          refine JL_neS (pc1 := 159) (tgt := 180) dL_law_156 rfl rfl (rfl) ?_
                          refine JL_aload_n (pc1 := 160) rfl (i := 1) rfl dL_law_159 rfl ?_
                          refine JL_iconst (pc1 := 161) dL_law_160 rfl ?_
                          refine JL_iload (pc1 := 163) rfl dL_law_161 rfl ?_
                          refine JL_mA (pc1 := 166) gv_L_37 yv_X9_player h18 (m_pl (p := 1) (w := 2) (z := g.1 10) (Or.inr rfl) (by decide) rfl) dL_law_163 rfl rfl rfl (by omega) (by decide) (by omega) (by omega) (Nat.le_of_ble_eq_true rfl) (fun S19 h19 => ?_)
                          refine JL_aload_n (pc1 := 167) rfl (i := 2) rfl dL_law_166 rfl ?_
                          refine JL_iconst (pc1 := 168) dL_law_167 rfl ?_
                          refine JL_iload (pc1 := 170) rfl dL_law_168 rfl ?_
                          refine JL_mB (pc1 := 173) gv_L_37 yv_X9_player h19 (m_pl (p := 1) (w := 2) (z := g.1 10) (Or.inr rfl) (by decide) rfl) dL_law_170 rfl rfl rfl (by omega) (by decide) (by omega) (by omega) (Nat.le_of_ble_eq_true rfl) (fun S20 h20 => ?_)
                          refine JL_neS (pc1 := 176) (tgt := 180) dL_law_173 rfl rfl (rfl) ?_
                          refine JL_iconst (pc1 := 177) dL_law_176 rfl ?_
                          refine JL_goto (tgt := 181) dL_law_177 rfl ?_
                          refine JL_istore_n (pc1 := 182) (L1 := [some (.ref bS), some (.ref (A 0)), some (.ref (B 0)), some (.int (iI 1)), some (.int (iI 2))]) rfl (i := 3) dL_law_181 rfl (by decide) rfl rfl ?_
                          refine JL_iinc (pc1 := 185) (L1 := [some (.ref bS), some (.ref (A 0)), some (.ref (B 0)), some (.int (iI 1)), some (.int (iI 3))]) dL_law_182 rfl rfl (by decide) rfl rfl ?_
                          refine JL_goto (tgt := 109) dL_law_185 rfl ?_
                          refine JL_iload (pc1 := 111) rfl dL_law_109 rfl ?_
                          refine JL_bipush (pc1 := 113) (by decide) dL_law_111 rfl ?_
                          refine JL_icmp_ge (pc1 := 116) (tgt := 188) (by decide) (by decide) (by decide) (by decide) dL_law_113 rfl rfl (fun hc13 => ?_) (fun hc13 => ?_)
                          · exact absurd hc13 (by decide)
                          · refine JL_iload_n (pc1 := 117) rfl (i := 3) rfl dL_law_116 rfl ?_
                            refine JL_if_eq (pc1 := 120) (tgt := 180) (by decide) (by decide) dL_law_117 rfl rfl (fun hc14 => ?_) (fun hc14 => ?_)
                            · exact absurd hc14 (by decide)
                            · refine JL_aload_n (pc1 := 121) rfl (i := 1) rfl dL_law_120 rfl ?_
                              refine JL_iload (pc1 := 123) rfl dL_law_121 rfl ?_
                              refine JL_mA (pc1 := 126) gv_L_23 yv_X9_count h20 (m_cn (w := 3) (z := g.1 3) (by decide) rfl) dL_law_123 rfl rfl rfl (by omega) (by decide) (by omega) (by omega) (Nat.le_of_ble_eq_true rfl) (fun S21 h21 => ?_)
                              refine JL_aload_n (pc1 := 127) rfl (i := 2) rfl dL_law_126 rfl ?_
                              refine JL_iload (pc1 := 129) rfl dL_law_127 rfl ?_
                              refine JL_mB (pc1 := 132) gv_L_23 yv_X9_count h21 (m_cn (w := 3) (z := g.1 3) (by decide) rfl) dL_law_129 rfl rfl rfl (by omega) (by decide) (by omega) (by omega) (Nat.le_of_ble_eq_true rfl) (fun S22 h22 => ?_)
                              refine JL_neS (pc1 := 135) (tgt := 180) dL_law_132 rfl rfl (rfl) ?_
                              refine JL_iload (pc1 := 137) rfl dL_law_135 rfl ?_
                              refine JL_bipush (pc1 := 139) (by decide) dL_law_137 rfl ?_
                              refine JL_icmp_gt (pc1 := 142) (tgt := 176) (by decide) (by decide) (by decide) (by decide) dL_law_139 rfl rfl (fun hc15 => ?_) (fun hc15 => ?_)
                              · exact absurd hc15 (by decide)
                              · refine JL_aload_n (pc1 := 143) rfl (i := 1) rfl dL_law_142 rfl ?_
                                refine JL_iconst (pc1 := 144) dL_law_143 rfl ?_
                                refine JL_iload (pc1 := 146) rfl dL_law_144 rfl ?_
                                refine JL_mA (pc1 := 149) gv_L_37 yv_X9_player h22 (m_pl (p := 0) (w := 3) (z := g.1 11) (Or.inl rfl) (by decide) rfl) dL_law_146 rfl rfl rfl (by omega) (by decide) (by omega) (by omega) (Nat.le_of_ble_eq_true rfl) (fun S23 h23 => ?_)
                                refine JL_aload_n (pc1 := 150) rfl (i := 2) rfl dL_law_149 rfl ?_
                                refine JL_iconst (pc1 := 151) dL_law_150 rfl ?_
                                refine JL_iload (pc1 := 153) rfl dL_law_151 rfl ?_
                                refine JL_mB (pc1 := 156) gv_L_37 yv_X9_player h23 (m_pl (p := 0) (w := 3) (z := g.1 11) (Or.inl rfl) (by decide) rfl) dL_law_153 rfl rfl rfl (by omega) (by decide) (by omega) (by omega) (Nat.le_of_ble_eq_true rfl) (fun S24 h24 => ?_)
                                refine JL_neS (pc1 := 159) (tgt := 180) dL_law_156 rfl rfl (rfl) ?_
                                refine JL_aload_n (pc1 := 160) rfl (i := 1) rfl dL_law_159 rfl ?_
                                refine JL_iconst (pc1 := 161) dL_law_160 rfl ?_
                                refine JL_iload (pc1 := 163) rfl dL_law_161 rfl ?_
                                refine JL_mA (pc1 := 166) gv_L_37 yv_X9_player h24 (m_pl (p := 1) (w := 3) (z := g.1 12) (Or.inr rfl) (by decide) rfl) dL_law_163 rfl rfl rfl (by omega) (by decide) (by omega) (by omega) (Nat.le_of_ble_eq_true rfl) (fun S25 h25 => ?_)
                                refine JL_aload_n (pc1 := 167) rfl (i := 2) rfl dL_law_166 rfl ?_
                                refine JL_iconst (pc1 := 168) dL_law_167 rfl ?_
                                refine JL_iload (pc1 := 170) rfl dL_law_168 rfl ?_
                                refine JL_mB (pc1 := 173) gv_L_37 yv_X9_player h25 (m_pl (p := 1) (w := 3) (z := g.1 12) (Or.inr rfl) (by decide) rfl) dL_law_170 rfl rfl rfl (by omega) (by decide) (by omega) (by omega) (Nat.le_of_ble_eq_true rfl) (fun S26 h26 => ?_)
                                refine JL_neS (pc1 := 176) (tgt := 180) dL_law_173 rfl rfl (rfl) ?_
                                refine JL_iconst (pc1 := 177) dL_law_176 rfl ?_
                                refine JL_goto (tgt := 181) dL_law_177 rfl ?_
                                refine JL_istore_n (pc1 := 182) (L1 := [some (.ref bS), some (.ref (A 0)), some (.ref (B 0)), some (.int (iI 1)), some (.int (iI 3))]) rfl (i := 3) dL_law_181 rfl (by decide) rfl rfl ?_
                                refine JL_iinc (pc1 := 185) (L1 := [some (.ref bS), some (.ref (A 0)), some (.ref (B 0)), some (.int (iI 1)), some (.int (iI 4))]) dL_law_182 rfl rfl (by decide) rfl rfl ?_
                                refine JL_goto (tgt := 109) dL_law_185 rfl ?_
                                refine JL_iload (pc1 := 111) rfl dL_law_109 rfl ?_
                                refine JL_bipush (pc1 := 113) (by decide) dL_law_111 rfl ?_
                                refine JL_icmp_ge (pc1 := 116) (tgt := 188) (by decide) (by decide) (by decide) (by decide) dL_law_113 rfl rfl (fun hc16 => ?_) (fun hc16 => ?_)
                                · exact absurd hc16 (by decide)
                                · refine JL_iload_n (pc1 := 117) rfl (i := 3) rfl dL_law_116 rfl ?_
                                  refine JL_if_eq (pc1 := 120) (tgt := 180) (by decide) (by decide) dL_law_117 rfl rfl (fun hc17 => ?_) (fun hc17 => ?_)
                                  · exact absurd hc17 (by decide)
                                  · refine JL_aload_n (pc1 := 121) rfl (i := 1) rfl dL_law_120 rfl ?_
                                    refine JL_iload (pc1 := 123) rfl dL_law_121 rfl ?_
                                    refine JL_mA (pc1 := 126) gv_L_23 yv_X9_count h26 (m_cn (w := 4) (z := g.1 4) (by decide) rfl) dL_law_123 rfl rfl rfl (by omega) (by decide) (by omega) (by omega) (Nat.le_of_ble_eq_true rfl) (fun S27 h27 => ?_)
                                    refine JL_aload_n (pc1 := 127) rfl (i := 2) rfl dL_law_126 rfl ?_
                                    refine JL_iload (pc1 := 129) rfl dL_law_127 rfl ?_
                                    refine JL_mB (pc1 := 132) gv_L_23 yv_X9_count h27 (m_cn (w := 4) (z := g.1 4) (by decide) rfl) dL_law_129 rfl rfl rfl (by omega) (by decide) (by omega) (by omega) (Nat.le_of_ble_eq_true rfl) (fun S28 h28 => ?_)
                                    refine JL_neS (pc1 := 135) (tgt := 180) dL_law_132 rfl rfl (rfl) ?_
                                    refine JL_iload (pc1 := 137) rfl dL_law_135 rfl ?_
                                    refine JL_bipush (pc1 := 139) (by decide) dL_law_137 rfl ?_
                                    refine JL_icmp_gt (pc1 := 142) (tgt := 176) (by decide) (by decide) (by decide) (by decide) dL_law_139 rfl rfl (fun hc18 => ?_) (fun hc18 => ?_)
                                    · exact absurd hc18 (by decide)
                                    · refine JL_aload_n (pc1 := 143) rfl (i := 1) rfl dL_law_142 rfl ?_
                                      refine JL_iconst (pc1 := 144) dL_law_143 rfl ?_
                                      refine JL_iload (pc1 := 146) rfl dL_law_144 rfl ?_
                                      refine JL_mA (pc1 := 149) gv_L_37 yv_X9_player h28 (m_pl (p := 0) (w := 4) (z := g.1 13) (Or.inl rfl) (by decide) rfl) dL_law_146 rfl rfl rfl (by omega) (by decide) (by omega) (by omega) (Nat.le_of_ble_eq_true rfl) (fun S29 h29 => ?_)
                                      refine JL_aload_n (pc1 := 150) rfl (i := 2) rfl dL_law_149 rfl ?_
                                      refine JL_iconst (pc1 := 151) dL_law_150 rfl ?_
                                      refine JL_iload (pc1 := 153) rfl dL_law_151 rfl ?_
                                      refine JL_mB (pc1 := 156) gv_L_37 yv_X9_player h29 (m_pl (p := 0) (w := 4) (z := g.1 13) (Or.inl rfl) (by decide) rfl) dL_law_153 rfl rfl rfl (by omega) (by decide) (by omega) (by omega) (Nat.le_of_ble_eq_true rfl) (fun S30 h30 => ?_)
                                      refine JL_neS (pc1 := 159) (tgt := 180) dL_law_156 rfl rfl (rfl) ?_
                                      refine JL_aload_n (pc1 := 160) rfl (i := 1) rfl dL_law_159 rfl ?_
                                      refine JL_iconst (pc1 := 161) dL_law_160 rfl ?_
                                      refine JL_iload (pc1 := 163) rfl dL_law_161 rfl ?_
                                      refine JL_mA (pc1 := 166) gv_L_37 yv_X9_player h30 (m_pl (p := 1) (w := 4) (z := g.1 14) (Or.inr rfl) (by decide) rfl) dL_law_163 rfl rfl rfl (by omega) (by decide) (by omega) (by omega) (Nat.le_of_ble_eq_true rfl) (fun S31 h31 => ?_)
                                      refine JL_aload_n (pc1 := 167) rfl (i := 2) rfl dL_law_166 rfl ?_
                                      refine JL_iconst (pc1 := 168) dL_law_167 rfl ?_
                                      refine JL_iload (pc1 := 170) rfl dL_law_168 rfl ?_
                                      refine JL_mB (pc1 := 173) gv_L_37 yv_X9_player h31 (m_pl (p := 1) (w := 4) (z := g.1 14) (Or.inr rfl) (by decide) rfl) dL_law_170 rfl rfl rfl (by omega) (by decide) (by omega) (by omega) (Nat.le_of_ble_eq_true rfl) (fun S32 h32 => ?_)
                                      refine JL_neS (pc1 := 176) (tgt := 180) dL_law_173 rfl rfl (rfl) ?_
                                      refine JL_iconst (pc1 := 177) dL_law_176 rfl ?_
                                      refine JL_goto (tgt := 181) dL_law_177 rfl ?_
                                      refine JL_istore_n (pc1 := 182) (L1 := [some (.ref bS), some (.ref (A 0)), some (.ref (B 0)), some (.int (iI 1)), some (.int (iI 4))]) rfl (i := 3) dL_law_181 rfl (by decide) rfl rfl ?_
                                      refine JL_iinc (pc1 := 185) (L1 := [some (.ref bS), some (.ref (A 0)), some (.ref (B 0)), some (.int (iI 1)), some (.int (iI 5))]) dL_law_182 rfl rfl (by decide) rfl rfl ?_
                                      refine JL_goto (tgt := 109) dL_law_185 rfl ?_
                                      refine JL_iload (pc1 := 111) rfl dL_law_109 rfl ?_
                                      refine JL_bipush (pc1 := 113) (by decide) dL_law_111 rfl ?_
                                      refine JL_icmp_ge (pc1 := 116) (tgt := 188) (by decide) (by decide) (by decide) (by decide) dL_law_113 rfl rfl (fun hc19 => ?_) (fun hc19 => ?_)
                                      · exact absurd hc19 (by decide)
                                      · refine JL_iload_n (pc1 := 117) rfl (i := 3) rfl dL_law_116 rfl ?_
                                        refine JL_if_eq (pc1 := 120) (tgt := 180) (by decide) (by decide) dL_law_117 rfl rfl (fun hc20 => ?_) (fun hc20 => ?_)
                                        · exact absurd hc20 (by decide)
                                        · refine JL_aload_n (pc1 := 121) rfl (i := 1) rfl dL_law_120 rfl ?_
                                          refine JL_iload (pc1 := 123) rfl dL_law_121 rfl ?_
                                          refine JL_mA (pc1 := 126) gv_L_23 yv_X9_count h32 (m_cn (w := 5) (z := fiF g.1) (by decide) rfl) dL_law_123 rfl rfl rfl (by omega) (by decide) (by omega) (by omega) (Nat.le_of_ble_eq_true rfl) (fun S33 h33 => ?_)
                                          refine JL_aload_n (pc1 := 127) rfl (i := 2) rfl dL_law_126 rfl ?_
                                          refine JL_iload (pc1 := 129) rfl dL_law_127 rfl ?_
                                          refine JL_mB (pc1 := 132) gv_L_23 yv_X9_count h33 (m_cn (w := 5) (z := fiF g.1) (by decide) rfl) dL_law_129 rfl rfl rfl (by omega) (by decide) (by omega) (by omega) (Nat.le_of_ble_eq_true rfl) (fun S34 h34 => ?_)
                                          refine JL_neS (pc1 := 135) (tgt := 180) dL_law_132 rfl rfl (rfl) ?_
                                          refine JL_iload (pc1 := 137) rfl dL_law_135 rfl ?_
                                          refine JL_bipush (pc1 := 139) (by decide) dL_law_137 rfl ?_
                                          refine JL_icmp_gt (pc1 := 142) (tgt := 176) (by decide) (by decide) (by decide) (by decide) dL_law_139 rfl rfl (fun hc21 => ?_) (fun hc21 => ?_)
                                          · exact absurd hc21 (by decide)
                                          · refine JL_aload_n (pc1 := 143) rfl (i := 1) rfl dL_law_142 rfl ?_
                                            refine JL_iconst (pc1 := 144) dL_law_143 rfl ?_
                                            refine JL_iload (pc1 := 146) rfl dL_law_144 rfl ?_
                                            refine JL_mA (pc1 := 149) gv_L_37 yv_X9_player h34 (m_pl (p := 0) (w := 5) (z := g.1 15) (Or.inl rfl) (by decide) rfl) dL_law_146 rfl rfl rfl (by omega) (by decide) (by omega) (by omega) (Nat.le_of_ble_eq_true rfl) (fun S35 h35 => ?_)
                                            refine JL_aload_n (pc1 := 150) rfl (i := 2) rfl dL_law_149 rfl ?_
                                            refine JL_iconst (pc1 := 151) dL_law_150 rfl ?_
                                            refine JL_iload (pc1 := 153) rfl dL_law_151 rfl ?_
                                            refine JL_mB (pc1 := 156) gv_L_37 yv_X9_player h35 (m_pl (p := 0) (w := 5) (z := g.1 15) (Or.inl rfl) (by decide) rfl) dL_law_153 rfl rfl rfl (by omega) (by decide) (by omega) (by omega) (Nat.le_of_ble_eq_true rfl) (fun S36 h36 => ?_)
                                            refine JL_neS (pc1 := 159) (tgt := 180) dL_law_156 rfl rfl (rfl) ?_
                                            refine JL_aload_n (pc1 := 160) rfl (i := 1) rfl dL_law_159 rfl ?_
                                            refine JL_iconst (pc1 := 161) dL_law_160 rfl ?_
                                            refine JL_iload (pc1 := 163) rfl dL_law_161 rfl ?_
                                            refine JL_mA (pc1 := 166) gv_L_37 yv_X9_player h36 (m_pl (p := 1) (w := 5) (z := g.1 16) (Or.inr rfl) (by decide) rfl) dL_law_163 rfl rfl rfl (by omega) (by decide) (by omega) (by omega) (Nat.le_of_ble_eq_true rfl) (fun S37 h37 => ?_)
                                            refine JL_aload_n (pc1 := 167) rfl (i := 2) rfl dL_law_166 rfl ?_
                                            refine JL_iconst (pc1 := 168) dL_law_167 rfl ?_
                                            refine JL_iload (pc1 := 170) rfl dL_law_168 rfl ?_
                                            refine JL_mB (pc1 := 173) gv_L_37 yv_X9_player h37 (m_pl (p := 1) (w := 5) (z := g.1 16) (Or.inr rfl) (by decide) rfl) dL_law_170 rfl rfl rfl (by omega) (by decide) (by omega) (by omega) (Nat.le_of_ble_eq_true rfl) (fun S38 h38 => ?_)
                                            refine JL_neS (pc1 := 176) (tgt := 180) dL_law_173 rfl rfl (rfl) ?_
                                            refine JL_iconst (pc1 := 177) dL_law_176 rfl ?_
                                            refine JL_goto (tgt := 181) dL_law_177 rfl ?_
                                            refine JL_istore_n (pc1 := 182) (L1 := [some (.ref bS), some (.ref (A 0)), some (.ref (B 0)), some (.int (iI 1)), some (.int (iI 5))]) rfl (i := 3) dL_law_181 rfl (by decide) rfl rfl ?_
                                            refine JL_iinc (pc1 := 185) (L1 := [some (.ref bS), some (.ref (A 0)), some (.ref (B 0)), some (.int (iI 1)), some (.int (iI 6))]) dL_law_182 rfl rfl (by decide) rfl rfl ?_
                                            refine JL_goto (tgt := 109) dL_law_185 rfl ?_
                                            refine JL_iload (pc1 := 111) rfl dL_law_109 rfl ?_
                                            refine JL_bipush (pc1 := 113) (by decide) dL_law_111 rfl ?_
                                            refine JL_icmp_ge (pc1 := 116) (tgt := 188) (by decide) (by decide) (by decide) (by decide) dL_law_113 rfl rfl (fun hc22 => ?_) (fun hc22 => ?_)
                                            · exact absurd hc22 (by decide)
                                            · refine JL_iload_n (pc1 := 117) rfl (i := 3) rfl dL_law_116 rfl ?_
                                              refine JL_if_eq (pc1 := 120) (tgt := 180) (by decide) (by decide) dL_law_117 rfl rfl (fun hc23 => ?_) (fun hc23 => ?_)
                                              · exact absurd hc23 (by decide)
                                              · refine JL_aload_n (pc1 := 121) rfl (i := 1) rfl dL_law_120 rfl ?_
                                                refine JL_iload (pc1 := 123) rfl dL_law_121 rfl ?_
                                                refine JL_mA (pc1 := 126) gv_L_23 yv_X9_count h38 (m_cn (w := 6) (z := g.1 6) (by decide) rfl) dL_law_123 rfl rfl rfl (by omega) (by decide) (by omega) (by omega) (Nat.le_of_ble_eq_true rfl) (fun S39 h39 => ?_)
                                                refine JL_aload_n (pc1 := 127) rfl (i := 2) rfl dL_law_126 rfl ?_
                                                refine JL_iload (pc1 := 129) rfl dL_law_127 rfl ?_
                                                refine JL_mB (pc1 := 132) gv_L_23 yv_X9_count h39 (m_cn (w := 6) (z := g.1 6) (by decide) rfl) dL_law_129 rfl rfl rfl (by omega) (by decide) (by omega) (by omega) (Nat.le_of_ble_eq_true rfl) (fun S40 h40 => ?_)
                                                refine JL_neS (pc1 := 135) (tgt := 180) dL_law_132 rfl rfl (rfl) ?_
                                                refine JL_iload (pc1 := 137) rfl dL_law_135 rfl ?_
                                                refine JL_bipush (pc1 := 139) (by decide) dL_law_137 rfl ?_
                                                refine JL_icmp_gt (pc1 := 142) (tgt := 176) (by decide) (by decide) (by decide) (by decide) dL_law_139 rfl rfl (fun hc24 => ?_) (fun hc24 => ?_)
                                                · exact absurd hc24 (by decide)
                                                · refine JL_aload_n (pc1 := 143) rfl (i := 1) rfl dL_law_142 rfl ?_
                                                  refine JL_iconst (pc1 := 144) dL_law_143 rfl ?_
                                                  refine JL_iload (pc1 := 146) rfl dL_law_144 rfl ?_
                                                  refine JL_mA (pc1 := 149) gv_L_37 yv_X9_player h40 (m_pl (p := 0) (w := 6) (z := tmF g.1 0) (Or.inl rfl) (by decide) rfl) dL_law_146 rfl rfl rfl (by omega) (by decide) (by omega) (by omega) (Nat.le_of_ble_eq_true rfl) (fun S41 h41 => ?_)
                                                  refine JL_aload_n (pc1 := 150) rfl (i := 2) rfl dL_law_149 rfl ?_
                                                  refine JL_iconst (pc1 := 151) dL_law_150 rfl ?_
                                                  refine JL_iload (pc1 := 153) rfl dL_law_151 rfl ?_
                                                  refine JL_mB (pc1 := 156) gv_L_37 yv_X9_player h41 (m_pl (p := 0) (w := 6) (z := tmF g.1 0) (Or.inl rfl) (by decide) rfl) dL_law_153 rfl rfl rfl (by omega) (by decide) (by omega) (by omega) (Nat.le_of_ble_eq_true rfl) (fun S42 h42 => ?_)
                                                  refine JL_neS (pc1 := 159) (tgt := 180) dL_law_156 rfl rfl (rfl) ?_
                                                  refine JL_aload_n (pc1 := 160) rfl (i := 1) rfl dL_law_159 rfl ?_
                                                  refine JL_iconst (pc1 := 161) dL_law_160 rfl ?_
                                                  refine JL_iload (pc1 := 163) rfl dL_law_161 rfl ?_
                                                  refine JL_mA (pc1 := 166) gv_L_37 yv_X9_player h42 (m_pl (p := 1) (w := 6) (z := tmF g.1 1) (Or.inr rfl) (by decide) rfl) dL_law_163 rfl rfl rfl (by omega) (by decide) (by omega) (by omega) (Nat.le_of_ble_eq_true rfl) (fun S43 h43 => ?_)
                                                  refine JL_aload_n (pc1 := 167) rfl (i := 2) rfl dL_law_166 rfl ?_
                                                  refine JL_iconst (pc1 := 168) dL_law_167 rfl ?_
                                                  refine JL_iload (pc1 := 170) rfl dL_law_168 rfl ?_
                                                  refine JL_mB (pc1 := 173) gv_L_37 yv_X9_player h43 (m_pl (p := 1) (w := 6) (z := tmF g.1 1) (Or.inr rfl) (by decide) rfl) dL_law_170 rfl rfl rfl (by omega) (by decide) (by omega) (by omega) (Nat.le_of_ble_eq_true rfl) (fun S44 h44 => ?_)
                                                  refine JL_neS (pc1 := 176) (tgt := 180) dL_law_173 rfl rfl (rfl) ?_
                                                  refine JL_iconst (pc1 := 177) dL_law_176 rfl ?_
                                                  refine JL_goto (tgt := 181) dL_law_177 rfl ?_
                                                  refine JL_istore_n (pc1 := 182) (L1 := [some (.ref bS), some (.ref (A 0)), some (.ref (B 0)), some (.int (iI 1)), some (.int (iI 6))]) rfl (i := 3) dL_law_181 rfl (by decide) rfl rfl ?_
                                                  refine JL_iinc (pc1 := 185) (L1 := [some (.ref bS), some (.ref (A 0)), some (.ref (B 0)), some (.int (iI 1)), some (.int (iI 7))]) dL_law_182 rfl rfl (by decide) rfl rfl ?_
                                                  refine JL_goto (tgt := 109) dL_law_185 rfl ?_
                                                  refine JL_iload (pc1 := 111) rfl dL_law_109 rfl ?_
                                                  refine JL_bipush (pc1 := 113) (by decide) dL_law_111 rfl ?_
                                                  refine JL_icmp_ge (pc1 := 116) (tgt := 188) (by decide) (by decide) (by decide) (by decide) dL_law_113 rfl rfl (fun hc25 => ?_) (fun hc25 => ?_)
                                                  · exact absurd hc25 (by decide)
                                                  · refine JL_iload_n (pc1 := 117) rfl (i := 3) rfl dL_law_116 rfl ?_
                                                    refine JL_if_eq (pc1 := 120) (tgt := 180) (by decide) (by decide) dL_law_117 rfl rfl (fun hc26 => ?_) (fun hc26 => ?_)
                                                    · exact absurd hc26 (by decide)
                                                    · refine JL_aload_n (pc1 := 121) rfl (i := 1) rfl dL_law_120 rfl ?_
                                                      refine JL_iload (pc1 := 123) rfl dL_law_121 rfl ?_
                                                      refine JL_mA (pc1 := 126) gv_L_23 yv_X9_count h44 (m_cn (w := 7) (z := winF g.1) (by decide) rfl) dL_law_123 rfl rfl rfl (by omega) (by decide) (by omega) (by omega) (Nat.le_of_ble_eq_true rfl) (fun S45 h45 => ?_)
                                                      refine JL_aload_n (pc1 := 127) rfl (i := 2) rfl dL_law_126 rfl ?_
                                                      refine JL_iload (pc1 := 129) rfl dL_law_127 rfl ?_
                                                      refine JL_mB (pc1 := 132) gv_L_23 yv_X9_count h45 (m_cn (w := 7) (z := winF g.1) (by decide) rfl) dL_law_129 rfl rfl rfl (by omega) (by decide) (by omega) (by omega) (Nat.le_of_ble_eq_true rfl) (fun S46 h46 => ?_)
                                                      refine JL_neS (pc1 := 135) (tgt := 180) dL_law_132 rfl rfl (rfl) ?_
                                                      refine JL_iload (pc1 := 137) rfl dL_law_135 rfl ?_
                                                      refine JL_bipush (pc1 := 139) (by decide) dL_law_137 rfl ?_
                                                      refine JL_icmp_gt (pc1 := 142) (tgt := 176) (by decide) (by decide) (by decide) (by decide) dL_law_139 rfl rfl (fun hc27 => ?_) (fun hc27 => ?_)
                                                      · refine JL_iconst (pc1 := 177) dL_law_176 rfl ?_
                                                        refine JL_goto (tgt := 181) dL_law_177 rfl ?_
                                                        refine JL_istore_n (pc1 := 182) (L1 := [some (.ref bS), some (.ref (A 0)), some (.ref (B 0)), some (.int (iI 1)), some (.int (iI 7))]) rfl (i := 3) dL_law_181 rfl (by decide) rfl rfl ?_
                                                        refine JL_iinc (pc1 := 185) (L1 := [some (.ref bS), some (.ref (A 0)), some (.ref (B 0)), some (.int (iI 1)), some (.int (iI 8))]) dL_law_182 rfl rfl (by decide) rfl rfl ?_
                                                        refine JL_goto (tgt := 109) dL_law_185 rfl ?_
                                                        refine JL_iload (pc1 := 111) rfl dL_law_109 rfl ?_
                                                        refine JL_bipush (pc1 := 113) (by decide) dL_law_111 rfl ?_
                                                        refine JL_icmp_ge (pc1 := 116) (tgt := 188) (by decide) (by decide) (by decide) (by decide) dL_law_113 rfl rfl (fun hc28 => ?_) (fun hc28 => ?_)
                                                        · exact absurd hc28 (by decide)
                                                        · refine JL_iload_n (pc1 := 117) rfl (i := 3) rfl dL_law_116 rfl ?_
                                                          refine JL_if_eq (pc1 := 120) (tgt := 180) (by decide) (by decide) dL_law_117 rfl rfl (fun hc29 => ?_) (fun hc29 => ?_)
                                                          · exact absurd hc29 (by decide)
                                                          · refine JL_aload_n (pc1 := 121) rfl (i := 1) rfl dL_law_120 rfl ?_
                                                            refine JL_iload (pc1 := 123) rfl dL_law_121 rfl ?_
                                                            refine JL_mA (pc1 := 126) gv_L_23 yv_X9_count h46 (m_cn (w := 8) (z := g.1 17) (by decide) rfl) dL_law_123 rfl rfl rfl (by omega) (by decide) (by omega) (by omega) (Nat.le_of_ble_eq_true rfl) (fun S47 h47 => ?_)
                                                            refine JL_aload_n (pc1 := 127) rfl (i := 2) rfl dL_law_126 rfl ?_
                                                            refine JL_iload (pc1 := 129) rfl dL_law_127 rfl ?_
                                                            refine JL_mB (pc1 := 132) gv_L_23 yv_X9_count h47 (m_cn (w := 8) (z := g.1 17) (by decide) rfl) dL_law_129 rfl rfl rfl (by omega) (by decide) (by omega) (by omega) (Nat.le_of_ble_eq_true rfl) (fun S48 h48 => ?_)
                                                            refine JL_neS (pc1 := 135) (tgt := 180) dL_law_132 rfl rfl (rfl) ?_
                                                            refine JL_iload (pc1 := 137) rfl dL_law_135 rfl ?_
                                                            refine JL_bipush (pc1 := 139) (by decide) dL_law_137 rfl ?_
                                                            refine JL_icmp_gt (pc1 := 142) (tgt := 176) (by decide) (by decide) (by decide) (by decide) dL_law_139 rfl rfl (fun hc30 => ?_) (fun hc30 => ?_)
                                                            · refine JL_iconst (pc1 := 177) dL_law_176 rfl ?_
                                                              refine JL_goto (tgt := 181) dL_law_177 rfl ?_
                                                              refine JL_istore_n (pc1 := 182) (L1 := [some (.ref bS), some (.ref (A 0)), some (.ref (B 0)), some (.int (iI 1)), some (.int (iI 8))]) rfl (i := 3) dL_law_181 rfl (by decide) rfl rfl ?_
                                                              refine JL_iinc (pc1 := 185) (L1 := [some (.ref bS), some (.ref (A 0)), some (.ref (B 0)), some (.int (iI 1)), some (.int (iI 9))]) dL_law_182 rfl rfl (by decide) rfl rfl ?_
                                                              refine JL_goto (tgt := 109) dL_law_185 rfl ?_
                                                              refine JL_iload (pc1 := 111) rfl dL_law_109 rfl ?_
                                                              refine JL_bipush (pc1 := 113) (by decide) dL_law_111 rfl ?_
                                                              refine JL_icmp_ge (pc1 := 116) (tgt := 188) (by decide) (by decide) (by decide) (by decide) dL_law_113 rfl rfl (fun hc31 => ?_) (fun hc31 => ?_)
                                                              · exact absurd hc31 (by decide)
                                                              · refine JL_iload_n (pc1 := 117) rfl (i := 3) rfl dL_law_116 rfl ?_
                                                                refine JL_if_eq (pc1 := 120) (tgt := 180) (by decide) (by decide) dL_law_117 rfl rfl (fun hc32 => ?_) (fun hc32 => ?_)
                                                                · exact absurd hc32 (by decide)
                                                                · refine JL_aload_n (pc1 := 121) rfl (i := 1) rfl dL_law_120 rfl ?_
                                                                  refine JL_iload (pc1 := 123) rfl dL_law_121 rfl ?_
                                                                  refine JL_mA (pc1 := 126) gv_L_23 yv_X9_count h48 (m_cn (w := 9) (z := g.1 15 + g.1 16) (by decide) rfl) dL_law_123 rfl rfl rfl (by omega) (by decide) (by omega) (by omega) (Nat.le_of_ble_eq_true rfl) (fun S49 h49 => ?_)
                                                                  refine JL_aload_n (pc1 := 127) rfl (i := 2) rfl dL_law_126 rfl ?_
                                                                  refine JL_iload (pc1 := 129) rfl dL_law_127 rfl ?_
                                                                  refine JL_mB (pc1 := 132) gv_L_23 yv_X9_count h49 (m_cn (w := 9) (z := g.1 15 + g.1 16) (by decide) rfl) dL_law_129 rfl rfl rfl (by omega) (by decide) (by omega) (by omega) (Nat.le_of_ble_eq_true rfl) (fun S50 h50 => ?_)
                                                                  refine JL_neS (pc1 := 135) (tgt := 180) dL_law_132 rfl rfl (rfl) ?_
                                                                  refine JL_iload (pc1 := 137) rfl dL_law_135 rfl ?_
                                                                  refine JL_bipush (pc1 := 139) (by decide) dL_law_137 rfl ?_
                                                                  refine JL_icmp_gt (pc1 := 142) (tgt := 176) (by decide) (by decide) (by decide) (by decide) dL_law_139 rfl rfl (fun hc33 => ?_) (fun hc33 => ?_)
                                                                  · refine JL_iconst (pc1 := 177) dL_law_176 rfl ?_
                                                                    refine JL_goto (tgt := 181) dL_law_177 rfl ?_
                                                                    refine JL_istore_n (pc1 := 182) (L1 := [some (.ref bS), some (.ref (A 0)), some (.ref (B 0)), some (.int (iI 1)), some (.int (iI 9))]) rfl (i := 3) dL_law_181 rfl (by decide) rfl rfl ?_
                                                                    refine JL_iinc (pc1 := 185) (L1 := [some (.ref bS), some (.ref (A 0)), some (.ref (B 0)), some (.int (iI 1)), some (.int (iI 10))]) dL_law_182 rfl rfl (by decide) rfl rfl ?_
                                                                    refine JL_goto (tgt := 109) dL_law_185 rfl ?_
                                                                    refine JL_iload (pc1 := 111) rfl dL_law_109 rfl ?_
                                                                    refine JL_bipush (pc1 := 113) (by decide) dL_law_111 rfl ?_
                                                                    refine JL_icmp_ge (pc1 := 116) (tgt := 188) (by decide) (by decide) (by decide) (by decide) dL_law_113 rfl rfl (fun hc34 => ?_) (fun hc34 => ?_)
                                                                    · refine JL_iload_n (pc1 := 189) rfl (i := 3) rfl dL_law_188 rfl ?_
                                                                      refine JL_if_eq (pc1 := 192) (tgt := 257) (by decide) (by decide) dL_law_189 rfl rfl (fun hc35 => ?_) (fun hc35 => ?_)
                                                                      · exact absurd hc35 (by decide)
                                                                      · refine JL_aload_n (pc1 := 193) rfl (i := 1) rfl dL_law_192 rfl ?_
                                                                        refine JL_mA (pc1 := 196) gv_L_84 yv_X9_bestBid h50 (m_bb (z := bbA g.1) rfl) dL_law_193 rfl rfl rfl (by omega) (by decide) (by omega) (by omega) (Nat.le_of_ble_eq_true rfl) (fun S51 h51 => ?_)
                                                                        refine JL_aload_n (pc1 := 197) rfl (i := 2) rfl dL_law_196 rfl ?_
                                                                        refine JL_mB (pc1 := 200) gv_L_84 yv_X9_bestBid h51 (m_bb (z := bbA g.1) rfl) dL_law_197 rfl rfl rfl (by omega) (by decide) (by omega) (by omega) (Nat.le_of_ble_eq_true rfl) (fun S52 h52 => ?_)
                                                                        refine JL_neS (pc1 := 203) (tgt := 257) dL_law_200 rfl rfl (rfl) ?_
                                                                        refine JL_aload_n (pc1 := 204) rfl (i := 1) rfl dL_law_203 rfl ?_
                                                                        refine JL_iconst (pc1 := 205) dL_law_204 rfl ?_
                                                                        refine JL_mA (pc1 := 208) gv_L_99 yv_X9_bestAnswer h52 (m_ba (b := 0) (z := baA g.1 0) (by decide) rfl) dL_law_205 rfl rfl rfl (by omega) (by decide) (by omega) (by omega) (Nat.le_of_ble_eq_true rfl) (fun S53 h53 => ?_)
                                                                        refine JL_aload_n (pc1 := 209) rfl (i := 2) rfl dL_law_208 rfl ?_
                                                                        refine JL_iconst (pc1 := 210) dL_law_209 rfl ?_
                                                                        refine JL_mB (pc1 := 213) gv_L_99 yv_X9_bestAnswer h53 (m_ba (b := 0) (z := baA g.1 0) (by decide) rfl) dL_law_210 rfl rfl rfl (by omega) (by decide) (by omega) (by omega) (Nat.le_of_ble_eq_true rfl) (fun S54 h54 => ?_)
                                                                        refine JL_neS (pc1 := 216) (tgt := 257) dL_law_213 rfl rfl (rfl) ?_
                                                                        refine JL_aload_n (pc1 := 217) rfl (i := 1) rfl dL_law_216 rfl ?_
                                                                        refine JL_mA (pc1 := 220) gv_L_81 yv_X9_keeps h54 (m_ck (z := ckA g.1) rfl) dL_law_217 rfl rfl rfl (by omega) (by decide) (by omega) (by omega) (Nat.le_of_ble_eq_true rfl) (fun S55 h55 => ?_)
                                                                        refine JL_aload_n (pc1 := 221) rfl (i := 2) rfl dL_law_220 rfl ?_
                                                                        refine JL_mB (pc1 := 224) gv_L_81 yv_X9_keeps h55 (m_ck (z := ckA g.1) rfl) dL_law_221 rfl rfl rfl (by omega) (by decide) (by omega) (by omega) (Nat.le_of_ble_eq_true rfl) (fun S56 h56 => ?_)
                                                                        refine JL_neS (pc1 := 227) (tgt := 257) dL_law_224 rfl rfl (rfl) ?_
                                                                        refine JL_aload_n (pc1 := 228) rfl (i := 1) rfl dL_law_227 rfl ?_
                                                                        refine JL_iconst (pc1 := 229) dL_law_228 rfl ?_
                                                                        refine JL_mA (pc1 := 232) gv_L_53 yv_X9_leastHours h56 (m_lh (p := 0) (z := lhA g.1 0) (by decide) rfl) dL_law_229 rfl rfl rfl (by omega) (by decide) (by omega) (by omega) (Nat.le_of_ble_eq_true rfl) (fun S57 h57 => ?_)
                                                                        refine JL_aload_n (pc1 := 233) rfl (i := 2) rfl dL_law_232 rfl ?_
                                                                        refine JL_iconst (pc1 := 234) dL_law_233 rfl ?_
                                                                        refine JL_mB (pc1 := 237) gv_L_53 yv_X9_leastHours h57 (m_lh (p := 0) (z := lhA g.1 0) (by decide) rfl) dL_law_234 rfl rfl rfl (by omega) (by decide) (by omega) (by omega) (Nat.le_of_ble_eq_true rfl) (fun S58 h58 => ?_)
                                                                        refine JL_neS (pc1 := 240) (tgt := 257) dL_law_237 rfl rfl (rfl) ?_
                                                                        refine JL_aload_n (pc1 := 241) rfl (i := 1) rfl dL_law_240 rfl ?_
                                                                        refine JL_iconst (pc1 := 242) dL_law_241 rfl ?_
                                                                        refine JL_mA (pc1 := 245) gv_L_53 yv_X9_leastHours h58 (m_lh (p := 1) (z := lhA g.1 1) (by decide) rfl) dL_law_242 rfl rfl rfl (by omega) (by decide) (by omega) (by omega) (Nat.le_of_ble_eq_true rfl) (fun S59 h59 => ?_)
                                                                        refine JL_aload_n (pc1 := 246) rfl (i := 2) rfl dL_law_245 rfl ?_
                                                                        refine JL_iconst (pc1 := 247) dL_law_246 rfl ?_
                                                                        refine JL_mB (pc1 := 250) gv_L_53 yv_X9_leastHours h59 (m_lh (p := 1) (z := lhA g.1 1) (by decide) rfl) dL_law_247 rfl rfl rfl (by omega) (by decide) (by omega) (by omega) (Nat.le_of_ble_eq_true rfl) (fun S60 h60 => ?_)
                                                                        refine JL_neS (pc1 := 253) (tgt := 257) dL_law_250 rfl rfl (rfl) ?_
                                                                        refine JL_iconst (pc1 := 254) dL_law_253 rfl ?_
                                                                        refine JL_goto (tgt := 258) dL_law_254 rfl ?_
                                                                        exact JL_iret rfl rfl dL_law_258 (by omega) (by omega) (hK S60)
                                                                    · exact absurd hc34 (by decide)
                                                                  · exact absurd hc33 (by decide)
                                                            · exact absurd hc30 (by decide)
                                                      · exact absurd hc27 (by decide)
set_option maxHeartbeats 2000000 in
set_option maxRecDepth 20000 in
theorem law_loop (hn : nS ≤ 260) (hK : ∀ S, K (some (.int (iI 1))) S) : ∀ (r k : Nat) {S : pS}, k + r = 46 → LI S A B → JdL bS nS xs yL_law cL_law 5 (some .boolean) 20 600000 7302249 K (60 + 340 * k) (800 + 107000 * k) S 21 [some (.ref bS), some (.ref (A 0)), some (.ref (B 0)), some (.int (iI 1)), some (.int (iI (k : Int)))] [] := by
  intro r
  induction r with
  | zero =>
    intro k S hk hI
    have hk46 : k = 46 := by omega
    subst hk46
    refine JL_iload (pc1 := 23) rfl dL_law_21 rfl ?_
    refine JL_bipush (pc1 := 25) (by decide) dL_law_23 rfl ?_
    refine JL_icmp_ge (pc1 := 28) (tgt := 82) (by omega) (by omega) (by decide) (by decide) dL_law_25 rfl rfl (fun hc1 => ?_) (fun hc1 => ?_)
    · exact law_end hK hI
    · exact absurd (show (46 : Int) ≤ ((46 : Nat) : Int) by decide) hc1
  | succ r ih =>
    intro k S hk hI
    obtain ⟨g, tx, l, tx2, l2, hX⟩ := hI
    refine JL_iload (pc1 := 23) rfl dL_law_21 rfl ?_
    refine JL_bipush (pc1 := 25) (by decide) dL_law_23 rfl ?_
    refine JL_icmp_ge (pc1 := 28) (tgt := 82) (by omega) (by omega) (by decide) (by decide) dL_law_25 rfl rfl (fun hc1 => ?_) (fun hc1 => ?_)
    · exact absurd hc1 (by omega)
    · refine JL_iload_n (pc1 := 29) rfl (i := 3) rfl dL_law_28 rfl ?_
      refine JL_if_eq (pc1 := 32) (tgt := 82) (by decide) (by decide) dL_law_29 rfl rfl (fun hc2 => ?_) (fun hc2 => ?_)
      · exact absurd hc2 (by decide)
      · refine JL_aload_n (pc1 := 33) rfl (i := 1) rfl dL_law_32 rfl ?_
        refine JL_aload_n (pc1 := 34) rfl (i := 2) rfl dL_law_33 rfl ?_
        refine JL_aload_n (pc1 := 35) rfl (i := 0) rfl dL_law_34 rfl ?_
        refine JL_iload (pc1 := 37) rfl dL_law_35 rfl ?_
        refine JL_callC (pc1 := 40) (As := [.ref bS, .int (iI (k : Int))]) gs_L_88 yv_L_cell (c_L_cell hn (k := (k : Int)) (by omega)) dL_law_37 rfl rfl rfl (by omega) (by decide) (by omega) (by omega) (Nat.le_of_ble_eq_true rfl) ?_
        refine JL_aload_n (pc1 := 41) rfl (i := 0) rfl dL_law_40 rfl ?_
        refine JL_iload (pc1 := 43) rfl dL_law_41 rfl ?_
        refine JL_iconst (pc1 := 44) dL_law_43 rfl ?_
        refine JL_iadd (pc1 := 45) dL_law_44 rfl ?_
        refine JL_callC (pc1 := 48) (As := [.ref bS, .int (iI ((k : Int) + 1))]) gs_L_88 yv_L_cell (c_L_cell hn (k := (k : Int) + 1) (by omega)) dL_law_45 rfl rfl rfl (by omega) (by decide) (by omega) (by omega) (Nat.le_of_ble_eq_true rfl) ?_
        refine JL_iconst (pc1 := 49) dL_law_48 rfl ?_
        refine JL_ishr (pc1 := 50) dL_law_49 rfl ?_
        refine JL_callSIs (pc1 := 53) (As := [.ref (A 0), .ref (B 0), .int (ceF nS xs ((k : Int))), .int ((ceF nS xs ((k : Int) + 1)) >>> ((iI 2) &&& 31))]) gs_L_92 yv_L_isStep (c_isStep hX) dL_law_50 rfl rfl rfl (by omega) (by decide) (by omega) (by omega) (Nat.le_of_ble_eq_true rfl) (fun S1 h1 => ?_)
        obtain ⟨g, tx, l, tx2, l2, h1⟩ := h1
        refine JL_if_eq (pc1 := 56) (tgt := 74) (by decide) (by decide) dL_law_53 rfl rfl (fun hc3 => ?_) (fun hc3 => ?_)
        · exact absurd hc3 (by decide)
        · refine JL_iload (pc1 := 58) rfl dL_law_56 rfl ?_
          refine JL_iconst (pc1 := 59) dL_law_58 rfl ?_
          refine JL_irem (pc1 := 60) (by omega) (by omega) (by omega) (by omega) dL_law_59 rfl ?_
          refine JL_if_gt (pc1 := 63) (tgt := 70) (by omega) (by omega) dL_law_60 rfl rfl (fun hc4 => ?_) (fun hc4 => ?_)
          · refine JL_iconst (pc1 := 71) dL_law_70 rfl ?_
            refine JL_goto (tgt := 75) dL_law_71 rfl ?_
            refine JL_istore_n (pc1 := 76) (L1 := [some (.ref bS), some (.ref (A 0)), some (.ref (B 0)), some (.int (iI 1)), some (.int (iI (k : Int)))]) rfl (i := 3) dL_law_75 rfl (by decide) rfl rfl ?_
            refine JL_iinc (pc1 := 79) (L1 := [some (.ref bS), some (.ref (A 0)), some (.ref (B 0)), some (.int (iI 1)), some (.int (iI ((k : Int) + 1)))]) dL_law_76 rfl rfl (by decide) rfl rfl ?_
            refine JL_goto (tgt := 21) dL_law_79 rfl ?_
            refine JL_L (L1 := [some (.ref bS), some (.ref (A 0)), some (.ref (B 0)), some (.int (iI 1)), some (.int (iI ((k + 1 : Nat) : Int)))]) (by rw [show (k : Int) + 1 = ((k + 1 : Nat) : Int) by omega]) ?_
            exact JL_w (by omega) (by omega) (ih (k + 1) (by omega) ⟨_, _, _, _, _, h1⟩)
          · refine JL_aload_n (pc1 := 64) rfl (i := 1) rfl dL_law_63 rfl ?_
            refine JL_sA (pc1 := 67) gs_L_96 yv_L_isWell h1 (m_isWell) dL_law_64 rfl rfl rfl (by omega) (by decide) (by omega) (by omega) (Nat.le_of_ble_eq_true rfl) (fun S2 h2 => ?_)
            refine JL_if_eq (pc1 := 70) (tgt := 74) (by decide) (by decide) dL_law_67 rfl rfl (fun hc5 => ?_) (fun hc5 => ?_)
            · exact absurd hc5 (by decide)
            · refine JL_iconst (pc1 := 71) dL_law_70 rfl ?_
              refine JL_goto (tgt := 75) dL_law_71 rfl ?_
              refine JL_istore_n (pc1 := 76) (L1 := [some (.ref bS), some (.ref (A 0)), some (.ref (B 0)), some (.int (iI 1)), some (.int (iI (k : Int)))]) rfl (i := 3) dL_law_75 rfl (by decide) rfl rfl ?_
              refine JL_iinc (pc1 := 79) (L1 := [some (.ref bS), some (.ref (A 0)), some (.ref (B 0)), some (.int (iI 1)), some (.int (iI ((k : Int) + 1)))]) dL_law_76 rfl rfl (by decide) rfl rfl ?_
              refine JL_goto (tgt := 21) dL_law_79 rfl ?_
              refine JL_L (L1 := [some (.ref bS), some (.ref (A 0)), some (.ref (B 0)), some (.int (iI 1)), some (.int (iI ((k + 1 : Nat) : Int)))]) (by rw [show (k : Int) + 1 = ((k + 1 : Nat) : Int) by omega]) ?_
              exact JL_w (by omega) (by omega) (ih (k + 1) (by omega) ⟨_, _, _, _, _, h2⟩)
end LAW
/-- the first state -/
def g0 : GS := (zeF, zeF, zeF, 0, 0, 0, fun _ => zeF)
theorem okW_0 : okW g0 := ⟨⟨okF_ze, Or.inl rfl, Or.inl rfl, fun z => absurd z (by decide), fun z => absurd z (by decide), Nat.zero_le _, fun i hi => absurd hi (Nat.not_lt_zero i)⟩, ⟨rfl, rfl, rfl, fun _ => rfl, fun z => absurd z (by decide)⟩, fun z => absurd z (by decide), fun z => absurd z (by decide), fun i hi => absurd hi (Nat.not_lt_zero i)⟩
theorem pv_new (T : pS) (b : Nat) (e : pE) : pu T b e = pv (pu nP b e) T := by
  funext x
  by_cases h : x = b
  · rw [h, pu_self, pv_l (pu_self _ _ _)]
  · rw [pu_ne _ _ h, pv_r (by rw [pu_ne _ _ h]; rfl)]
theorem dj_new {T : pS} {b : Nat} {e : pE} (h : T b = none) : dj (pu nP b e) T := fun a e1 h1 => by
  by_cases q : a = b
  · rw [q]; exact h
  · rw [pu_ne _ _ q] at h1
    cases h1
section LAW2
variable {bS nS : Nat} {xs : Nat → Int32} {K : Option Value → pS → Prop}
set_option maxHeartbeats 1000000 in
set_option maxRecDepth 20000 in
theorem law_all (hn : nS ≤ 260) (hK : ∀ S, K (some (.int (iI 1))) S) : JdL bS nS xs yL_law cL_law 5 (some .boolean) 20 600000 7302249 K 0 0 nP 0 [some (.ref bS), none, none, none, none] [] := by
  refine JL_new (pc1 := 3) (fs := [.null, .null, .null, .null, .null, .null, .null, .null]) inUX9 (ci := 9) rfl tyX9 tyX9_ok ll_L_12 lt_X9 ln_X9 df_X9 dL_law_0 rfl (by omega) (by omega) (fun a na => ?_)
  refine JL_dup (pc1 := 4) rfl dL_law_3 rfl ?_
  refine JL_callI (pc1 := 7) (As := []) (good_C lc_X9_init) yv_X9_init ln_X9 lm_L_87 li_X9_init (c_X9_init (pu_self _ _ _)) dL_law_4 rfl rfl rfl (by omega) (by decide) (by omega) (by omega) (Nat.le_of_ble_eq_true rfl) (fun r T hT => ?_)
  obtain ⟨rfl, A, a0, hXS, n6, fr⟩ := hT
  have hA : XT T A g0 (fun _ => 0) 0 := ⟨hXS _ _, okW_0⟩
  refine JL_st (st1 := [.ref a]) rfl ?_
  rw [← a0]
  refine JL_astore_n (pc1 := 8) (L1 := [some (.ref bS), some (.ref (A 0)), none, none, none]) rfl (i := 1) dL_law_7 rfl (by decide) rfl rfl ?_
  refine JL_new (pc1 := 11) (fs := [.null, .null, .null, .null, .null, .null, .null, .null]) inUX9 (ci := 9) rfl tyX9 tyX9_ok ll_L_12 lt_X9 ln_X9 df_X9 dL_law_8 rfl (by omega) (by omega) (fun b nb => ?_)
  refine JL_S (S1 := pv (pu nP b (oO 9 [.null, .null, .null, .null, .null, .null, .null, .null])) T) (pv_new _ _ _) ?_
  refine JL_dup (pc1 := 12) rfl dL_law_11 rfl ?_
  refine JL_callI (pc1 := 15) (As := []) (good_C lc_X9_init) yv_X9_init ln_X9 lm_L_87 li_X9_init ((c_X9_init (S := pu nP b (oO 9 [.null, .null, .null, .null, .null, .null, .null, .null])) (pu_self _ _ _)).frame (dj_new nb)) dL_law_12 rfl rfl rfl (by omega) (by decide) (by omega) (by omega) (Nat.le_of_ble_eq_true rfl) (fun r U hU => ?_)
  obtain ⟨T1, ⟨rfl, B, b0, hXS2, n62, fr2⟩, hd1, rfl⟩ := hU
  have hB : XT T1 B g0 (fun _ => 0) 0 := ⟨hXS2 _ _, okW_0⟩
  have hP : P2 (pv T1 T) B A g0 (fun _ => 0) 0 g0 (fun _ => 0) 0 := ⟨T1, T, rfl, hd1, hB, hA⟩
  refine JL_st (st1 := [.ref b]) rfl ?_
  rw [← b0]
  refine JL_astore_n (pc1 := 16) (L1 := [some (.ref bS), some (.ref (A 0)), some (.ref (B 0)), none, none]) rfl (i := 2) dL_law_15 rfl (by decide) rfl rfl ?_
  refine JL_iconst (pc1 := 17) dL_law_16 rfl ?_
  refine JL_istore_n (pc1 := 18) (L1 := [some (.ref bS), some (.ref (A 0)), some (.ref (B 0)), some (.int (iI 1)), none]) rfl (i := 3) dL_law_17 rfl (by decide) rfl rfl ?_
  refine JL_iconst (pc1 := 19) dL_law_18 rfl ?_
  refine JL_istore (pc1 := 21) (L1 := [some (.ref bS), some (.ref (A 0)), some (.ref (B 0)), some (.int (iI 1)), some (.int (iI ((0 : Nat) : Int)))]) dL_law_19 rfl (by decide) rfl rfl ?_
  exact JL_w (by omega) (by omega) (law_loop hn hK 46 0 rfl ⟨_, _, _, _, _, hP.s⟩)
end LAW2
