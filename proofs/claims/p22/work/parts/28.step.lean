/-! 28.step: isStep -/
theorem c_L_upZ {S : pS} {x : Int32} {n z : Int} (hn : 0 < n ∧ n < 100) (hz : upF x n = z) : Ct yL_up cL_up 2 (some .int) 0 0 0 [.int x, .int (iI n)] S (kI z S) := by
  subst hz
  exact c_L_up hn
theorem m_isRoundZ {g : GS} {tx : Int → Int} {L : Nat} {b a z : Int} (hb : 0 ≤ b ∧ b ≤ 14) (ha : 0 ≤ a ∧ a ≤ 14) (hal : alF g.1 b a) (hz : g.1 5 = z) : MC yL_isRound cL_isRound 17 (some .boolean) 9 40 11800 [.int (iI b), .int (iI a), .int (iI z)] g tx L 1 (chg g (plF g.1 b a)) tx L := by
  subst hz
  exact m_isRound hb ha hal
/-- both objects hold one state; the pads are their own -/
def LI (S : pS) (A B : Nat → Nat) : Prop := ∃ (g : GS) (tx : Int → Int) (L : Nat) (tx2 : Int → Int) (L2 : Nat), P2 S A B g tx L g tx2 L2
section ST
variable {A B : Nat → Nat} {g : GS} {tx tx2 : Int → Int} {L L2 : Nat} {x y : Int32} {S : pS}
set_option maxHeartbeats 2000000 in
set_option maxRecDepth 20000 in
theorem st_set0 (hX : P2 S A B g tx L g tx2 L2) (hk : upF (x >>> (iI 4 &&& 31)) 4 = 0) : Jd yL_isStep cL_isStep 9 (some .boolean) 10 80 24000 (kIS 1 (fun T => LI T A B)) 0 0 S 52 [some (.ref (A 0)), some (.ref (B 0)), some (.int x), some (.int y), some (.int (x >>> (iI 4 &&& 31))), none, none, none, none] [] := by
  have ok := hX.oa.1.1
  have u3 := upF_b y (n := 3) (by decide)
  have u2 := upF_b y (n := 2) (by decide)
  have hP : (0 ≤ (0 : Int) ∧ (0 : Int) ≤ 3) ∧ (if (0 : Int) = 0 then 1 else 0) ≤ 1 + upF y 3 ∧ 1 + upF y 3 ≤ (if (0 : Int) = 0 then (3 : Int) else if (0 : Int) = 1 then 2 else 1) := ⟨by decide, show (1 : Int) ≤ 1 + upF y 3 by omega, show 1 + upF y 3 ≤ (3 : Int) by omega⟩
  have hE : 1 ≤ (uZ g.1 0 (1 + upF y 3)) 0 := show (1 : Int) ≤ 1 + upF y 3 by omega
  refine J_iload (pc1 := 54) rfl dL_isStep_52 rfl ?_
  refine J_iconst (pc1 := 55) dL_isStep_54 rfl ?_
  refine J_callSI (pc1 := 58) (As := [.int (x >>> (iI 4 &&& 31)), .int (iI 4)]) gs_L_17 yv_L_up ((c_L_upZ (x := (x >>> (iI 4 &&& 31))) (n := 4) (z := 0) ⟨by decide, by decide⟩ (hk))) dL_isStep_55 rfl rfl rfl (by omega) (by decide) (by omega) (by omega) (Nat.le_of_ble_eq_true rfl) ?_
  refine J_istore (pc1 := 60) (L1 := [some (.ref (A 0)), some (.ref (B 0)), some (.int x), some (.int y), some (.int (x >>> (iI 4 &&& 31))), some (.int (iI 0)), none, none, none]) dL_isStep_58 rfl (by decide) rfl rfl ?_
  refine J_iload (pc1 := 62) rfl dL_isStep_60 rfl ?_
  refine J_if_ne (pc1 := 65) (tgt := 75) (by decide) (by decide) dL_isStep_62 rfl rfl (fun hc1 => ?_) (fun hc1 => ?_)
  · exact absurd hc1 (by decide)
  · refine J_iconst (pc1 := 66) dL_isStep_65 rfl ?_
    refine J_iload_n (pc1 := 67) rfl (i := 3) rfl dL_isStep_66 rfl ?_
    refine J_iconst (pc1 := 68) dL_isStep_67 rfl ?_
    refine J_callSI (pc1 := 71) (As := [.int y, .int (iI 3)]) gs_L_17 yv_L_up ((c_L_upZ (x := y) (n := 3) (z := upF y 3) ⟨by decide, by decide⟩ (rfl))) dL_isStep_68 rfl rfl rfl (by omega) (by decide) (by omega) (by omega) (Nat.le_of_ble_eq_true rfl) ?_
    refine J_iadd (pc1 := 72) dL_isStep_71 rfl ?_
    refine J_goto (tgt := 94) dL_isStep_72 rfl ?_
    refine J_istore (pc1 := 96) (L1 := [some (.ref (A 0)), some (.ref (B 0)), some (.int x), some (.int y), some (.int (x >>> (iI 4 &&& 31))), some (.int (iI 0)), some (.int (iI (1 + (upF y 3)))), none, none]) dL_isStep_94 rfl (by decide) rfl rfl ?_
    refine J_aload_n (pc1 := 97) rfl (i := 0) rfl dL_isStep_96 rfl ?_
    refine J_iload (pc1 := 99) rfl dL_isStep_97 rfl ?_
    refine J_mA (pc1 := 102) gv_L_23 yv_X9_count hX (m_cn (w := 0) (z := g.1 0) (by decide) rfl) dL_isStep_99 rfl rfl rfl (by omega) (by decide) (by omega) (by omega) (Nat.le_of_ble_eq_true rfl) (fun S1 h1 => ?_)
    refine J_istore (pc1 := 104) (L1 := [some (.ref (A 0)), some (.ref (B 0)), some (.int x), some (.int y), some (.int (x >>> (iI 4 &&& 31))), some (.int (iI 0)), some (.int (iI (1 + (upF y 3)))), some (.int (iI (g.1 0))), none]) dL_isStep_102 rfl (by decide) rfl rfl ?_
    refine J_aload_n (pc1 := 105) rfl (i := 0) rfl dL_isStep_104 rfl ?_
    refine J_iload (pc1 := 107) rfl dL_isStep_105 rfl ?_
    refine J_iload (pc1 := 109) rfl dL_isStep_107 rfl ?_
    refine J_mA (pc1 := 112) gv_L_27 yv_X9_set h1 (m_set (k := 0) (v := 1 + upF y 3) (by decide) (by omega) hP) dL_isStep_109 rfl rfl rfl (by omega) (by decide) (by omega) (by omega) (Nat.le_of_ble_eq_true rfl) (fun S2 h2 => ?_)
    refine J_iload (pc1 := 114) rfl dL_isStep_112 rfl ?_
    refine J_neS (pc1 := 117) (tgt := 152) dL_isStep_114 rfl rfl (rfl) ?_
    refine J_aload_n (pc1 := 118) rfl (i := 1) rfl dL_isStep_117 rfl ?_
    refine J_iload (pc1 := 120) rfl dL_isStep_118 rfl ?_
    refine J_iload (pc1 := 122) rfl dL_isStep_120 rfl ?_
    refine J_mB (pc1 := 125) gv_L_27 yv_X9_set h2 (m_set (k := 0) (v := 1 + upF y 3) (by decide) (by omega) hP) dL_isStep_122 rfl rfl rfl (by omega) (by decide) (by omega) (by omega) (Nat.le_of_ble_eq_true rfl) (fun S3 h3 => ?_)
    refine J_iload (pc1 := 127) rfl dL_isStep_125 rfl ?_
    refine J_neS (pc1 := 130) (tgt := 152) dL_isStep_127 rfl rfl (rfl) ?_
    refine J_aload_n (pc1 := 131) rfl (i := 0) rfl dL_isStep_130 rfl ?_
    refine J_iload (pc1 := 133) rfl dL_isStep_131 rfl ?_
    refine J_mA (pc1 := 136) gv_L_23 yv_X9_count h3 (m_cn (w := 0) (z := 1 + upF y 3) (by decide) rfl) dL_isStep_133 rfl rfl rfl (by omega) (by decide) (by omega) (by omega) (Nat.le_of_ble_eq_true rfl) (fun S4 h4 => ?_)
    refine J_iload (pc1 := 138) rfl dL_isStep_136 rfl ?_
    refine J_neS (pc1 := 141) (tgt := 152) dL_isStep_138 rfl rfl (rfl) ?_
    refine J_aload_n (pc1 := 142) rfl (i := 0) rfl dL_isStep_141 rfl ?_
    refine J_sA (pc1 := 145) gs_L_30 yv_L_isNew h4 (m_isNew (isN_new hE)) dL_isStep_142 rfl rfl rfl (by omega) (by decide) (by omega) (by omega) (Nat.le_of_ble_eq_true rfl) (fun S5 h5 => ?_)
    refine J_if_eq (pc1 := 148) (tgt := 152) (by decide) (by decide) dL_isStep_145 rfl rfl (fun hc2 => ?_) (fun hc2 => ?_)
    · exact absurd hc2 (by decide)
    · refine J_iconst (pc1 := 149) dL_isStep_148 rfl ?_
      refine J_goto (tgt := 153) dL_isStep_149 rfl ?_
      exact J_iret rfl rfl dL_isStep_153 (by omega) (by omega) (kIS_mk rfl ⟨_, _, _, _, _, h5⟩)
set_option maxHeartbeats 2000000 in
set_option maxRecDepth 20000 in
theorem st_set1 (hX : P2 S A B g tx L g tx2 L2) (hk : upF (x >>> (iI 4 &&& 31)) 4 = 1) : Jd yL_isStep cL_isStep 9 (some .boolean) 10 80 24000 (kIS 1 (fun T => LI T A B)) 0 0 S 52 [some (.ref (A 0)), some (.ref (B 0)), some (.int x), some (.int y), some (.int (x >>> (iI 4 &&& 31))), none, none, none, none] [] := by
  have ok := hX.oa.1.1
  have u3 := upF_b y (n := 3) (by decide)
  have u2 := upF_b y (n := 2) (by decide)
  have hP : (0 ≤ (1 : Int) ∧ (1 : Int) ≤ 3) ∧ (if (1 : Int) = 0 then 1 else 0) ≤ upF y 3 ∧ upF y 3 ≤ (if (1 : Int) = 0 then (3 : Int) else if (1 : Int) = 1 then 2 else 1) := ⟨by decide, show (0 : Int) ≤ upF y 3 by omega, show upF y 3 ≤ (2 : Int) by omega⟩
  have hE : 1 ≤ (uZ g.1 1 (upF y 3)) 0 := show 1 ≤ g.1 0 from ok.1.1
  refine J_iload (pc1 := 54) rfl dL_isStep_52 rfl ?_
  refine J_iconst (pc1 := 55) dL_isStep_54 rfl ?_
  refine J_callSI (pc1 := 58) (As := [.int (x >>> (iI 4 &&& 31)), .int (iI 4)]) gs_L_17 yv_L_up ((c_L_upZ (x := (x >>> (iI 4 &&& 31))) (n := 4) (z := 1) ⟨by decide, by decide⟩ (hk))) dL_isStep_55 rfl rfl rfl (by omega) (by decide) (by omega) (by omega) (Nat.le_of_ble_eq_true rfl) ?_
  refine J_istore (pc1 := 60) (L1 := [some (.ref (A 0)), some (.ref (B 0)), some (.int x), some (.int y), some (.int (x >>> (iI 4 &&& 31))), some (.int (iI 1)), none, none, none]) dL_isStep_58 rfl (by decide) rfl rfl ?_
  refine J_iload (pc1 := 62) rfl dL_isStep_60 rfl ?_
  refine J_if_ne (pc1 := 65) (tgt := 75) (by decide) (by decide) dL_isStep_62 rfl rfl (fun hc1 => ?_) (fun hc1 => ?_)
  · refine J_iload (pc1 := 77) rfl dL_isStep_75 rfl ?_
    refine J_iconst (pc1 := 78) dL_isStep_77 rfl ?_
    refine J_icmp_ne (pc1 := 81) (tgt := 89) (by decide) (by decide) (by decide) (by decide) dL_isStep_78 rfl rfl (fun hc2 => ?_) (fun hc2 => ?_)
    · exact absurd hc2 (by decide)
    · refine J_iload_n (pc1 := 82) rfl (i := 3) rfl dL_isStep_81 rfl ?_
      refine J_iconst (pc1 := 83) dL_isStep_82 rfl ?_
      refine J_callSI (pc1 := 86) (As := [.int y, .int (iI 3)]) gs_L_17 yv_L_up ((c_L_upZ (x := y) (n := 3) (z := upF y 3) ⟨by decide, by decide⟩ (rfl))) dL_isStep_83 rfl rfl rfl (by omega) (by decide) (by omega) (by omega) (Nat.le_of_ble_eq_true rfl) ?_
      refine J_goto (tgt := 94) dL_isStep_86 rfl ?_
      refine J_istore (pc1 := 96) (L1 := [some (.ref (A 0)), some (.ref (B 0)), some (.int x), some (.int y), some (.int (x >>> (iI 4 &&& 31))), some (.int (iI 1)), some (.int (iI (upF y 3))), none, none]) dL_isStep_94 rfl (by decide) rfl rfl ?_
      refine J_aload_n (pc1 := 97) rfl (i := 0) rfl dL_isStep_96 rfl ?_
      refine J_iload (pc1 := 99) rfl dL_isStep_97 rfl ?_
      refine J_mA (pc1 := 102) gv_L_23 yv_X9_count hX (m_cn (w := 1) (z := g.1 1) (by decide) rfl) dL_isStep_99 rfl rfl rfl (by omega) (by decide) (by omega) (by omega) (Nat.le_of_ble_eq_true rfl) (fun S1 h1 => ?_)
      refine J_istore (pc1 := 104) (L1 := [some (.ref (A 0)), some (.ref (B 0)), some (.int x), some (.int y), some (.int (x >>> (iI 4 &&& 31))), some (.int (iI 1)), some (.int (iI (upF y 3))), some (.int (iI (g.1 1))), none]) dL_isStep_102 rfl (by decide) rfl rfl ?_
      refine J_aload_n (pc1 := 105) rfl (i := 0) rfl dL_isStep_104 rfl ?_
      refine J_iload (pc1 := 107) rfl dL_isStep_105 rfl ?_
      refine J_iload (pc1 := 109) rfl dL_isStep_107 rfl ?_
      refine J_mA (pc1 := 112) gv_L_27 yv_X9_set h1 (m_set (k := 1) (v := upF y 3) (by decide) (by omega) hP) dL_isStep_109 rfl rfl rfl (by omega) (by decide) (by omega) (by omega) (Nat.le_of_ble_eq_true rfl) (fun S2 h2 => ?_)
      refine J_iload (pc1 := 114) rfl dL_isStep_112 rfl ?_
      refine J_neS (pc1 := 117) (tgt := 152) dL_isStep_114 rfl rfl (rfl) ?_
      refine J_aload_n (pc1 := 118) rfl (i := 1) rfl dL_isStep_117 rfl ?_
      refine J_iload (pc1 := 120) rfl dL_isStep_118 rfl ?_
      refine J_iload (pc1 := 122) rfl dL_isStep_120 rfl ?_
      refine J_mB (pc1 := 125) gv_L_27 yv_X9_set h2 (m_set (k := 1) (v := upF y 3) (by decide) (by omega) hP) dL_isStep_122 rfl rfl rfl (by omega) (by decide) (by omega) (by omega) (Nat.le_of_ble_eq_true rfl) (fun S3 h3 => ?_)
      refine J_iload (pc1 := 127) rfl dL_isStep_125 rfl ?_
      refine J_neS (pc1 := 130) (tgt := 152) dL_isStep_127 rfl rfl (rfl) ?_
      refine J_aload_n (pc1 := 131) rfl (i := 0) rfl dL_isStep_130 rfl ?_
      refine J_iload (pc1 := 133) rfl dL_isStep_131 rfl ?_
      refine J_mA (pc1 := 136) gv_L_23 yv_X9_count h3 (m_cn (w := 1) (z := upF y 3) (by decide) rfl) dL_isStep_133 rfl rfl rfl (by omega) (by decide) (by omega) (by omega) (Nat.le_of_ble_eq_true rfl) (fun S4 h4 => ?_)
      refine J_iload (pc1 := 138) rfl dL_isStep_136 rfl ?_
      refine J_neS (pc1 := 141) (tgt := 152) dL_isStep_138 rfl rfl (rfl) ?_
      refine J_aload_n (pc1 := 142) rfl (i := 0) rfl dL_isStep_141 rfl ?_
      refine J_sA (pc1 := 145) gs_L_30 yv_L_isNew h4 (m_isNew (isN_new hE)) dL_isStep_142 rfl rfl rfl (by omega) (by decide) (by omega) (by omega) (Nat.le_of_ble_eq_true rfl) (fun S5 h5 => ?_)
      refine J_if_eq (pc1 := 148) (tgt := 152) (by decide) (by decide) dL_isStep_145 rfl rfl (fun hc3 => ?_) (fun hc3 => ?_)
      · exact absurd hc3 (by decide)
      · refine J_iconst (pc1 := 149) dL_isStep_148 rfl ?_
        refine J_goto (tgt := 153) dL_isStep_149 rfl ?_
        exact J_iret rfl rfl dL_isStep_153 (by omega) (by omega) (kIS_mk rfl ⟨_, _, _, _, _, h5⟩)
  · exact absurd hc1 (by decide)
set_option maxHeartbeats 2000000 in
set_option maxRecDepth 20000 in
theorem st_set2 (hX : P2 S A B g tx L g tx2 L2) (hk : upF (x >>> (iI 4 &&& 31)) 4 = 2) : Jd yL_isStep cL_isStep 9 (some .boolean) 10 80 24000 (kIS 1 (fun T => LI T A B)) 0 0 S 52 [some (.ref (A 0)), some (.ref (B 0)), some (.int x), some (.int y), some (.int (x >>> (iI 4 &&& 31))), none, none, none, none] [] := by
  have ok := hX.oa.1.1
  have u3 := upF_b y (n := 3) (by decide)
  have u2 := upF_b y (n := 2) (by decide)
  have hP : (0 ≤ (2 : Int) ∧ (2 : Int) ≤ 3) ∧ (if (2 : Int) = 0 then 1 else 0) ≤ upF y 2 ∧ upF y 2 ≤ (if (2 : Int) = 0 then (3 : Int) else if (2 : Int) = 1 then 2 else 1) := ⟨by decide, show (0 : Int) ≤ upF y 2 by omega, show upF y 2 ≤ (1 : Int) by omega⟩
  have hE : 1 ≤ (uZ g.1 2 (upF y 2)) 0 := show 1 ≤ g.1 0 from ok.1.1
  refine J_iload (pc1 := 54) rfl dL_isStep_52 rfl ?_
  refine J_iconst (pc1 := 55) dL_isStep_54 rfl ?_
  refine J_callSI (pc1 := 58) (As := [.int (x >>> (iI 4 &&& 31)), .int (iI 4)]) gs_L_17 yv_L_up ((c_L_upZ (x := (x >>> (iI 4 &&& 31))) (n := 4) (z := 2) ⟨by decide, by decide⟩ (hk))) dL_isStep_55 rfl rfl rfl (by omega) (by decide) (by omega) (by omega) (Nat.le_of_ble_eq_true rfl) ?_
  refine J_istore (pc1 := 60) (L1 := [some (.ref (A 0)), some (.ref (B 0)), some (.int x), some (.int y), some (.int (x >>> (iI 4 &&& 31))), some (.int (iI 2)), none, none, none]) dL_isStep_58 rfl (by decide) rfl rfl ?_
  refine J_iload (pc1 := 62) rfl dL_isStep_60 rfl ?_
  refine J_if_ne (pc1 := 65) (tgt := 75) (by decide) (by decide) dL_isStep_62 rfl rfl (fun hc1 => ?_) (fun hc1 => ?_)
  · refine J_iload (pc1 := 77) rfl dL_isStep_75 rfl ?_
    refine J_iconst (pc1 := 78) dL_isStep_77 rfl ?_
    refine J_icmp_ne (pc1 := 81) (tgt := 89) (by decide) (by decide) (by decide) (by decide) dL_isStep_78 rfl rfl (fun hc2 => ?_) (fun hc2 => ?_)
    · refine J_iload_n (pc1 := 90) rfl (i := 3) rfl dL_isStep_89 rfl ?_
      refine J_iconst (pc1 := 91) dL_isStep_90 rfl ?_
      refine J_callSI (pc1 := 94) (As := [.int y, .int (iI 2)]) gs_L_17 yv_L_up ((c_L_upZ (x := y) (n := 2) (z := upF y 2) ⟨by decide, by decide⟩ (rfl))) dL_isStep_91 rfl rfl rfl (by omega) (by decide) (by omega) (by omega) (Nat.le_of_ble_eq_true rfl) ?_
      refine J_istore (pc1 := 96) (L1 := [some (.ref (A 0)), some (.ref (B 0)), some (.int x), some (.int y), some (.int (x >>> (iI 4 &&& 31))), some (.int (iI 2)), some (.int (iI (upF y 2))), none, none]) dL_isStep_94 rfl (by decide) rfl rfl ?_
      refine J_aload_n (pc1 := 97) rfl (i := 0) rfl dL_isStep_96 rfl ?_
      refine J_iload (pc1 := 99) rfl dL_isStep_97 rfl ?_
      refine J_mA (pc1 := 102) gv_L_23 yv_X9_count hX (m_cn (w := 2) (z := g.1 2) (by decide) rfl) dL_isStep_99 rfl rfl rfl (by omega) (by decide) (by omega) (by omega) (Nat.le_of_ble_eq_true rfl) (fun S1 h1 => ?_)
      refine J_istore (pc1 := 104) (L1 := [some (.ref (A 0)), some (.ref (B 0)), some (.int x), some (.int y), some (.int (x >>> (iI 4 &&& 31))), some (.int (iI 2)), some (.int (iI (upF y 2))), some (.int (iI (g.1 2))), none]) dL_isStep_102 rfl (by decide) rfl rfl ?_
      refine J_aload_n (pc1 := 105) rfl (i := 0) rfl dL_isStep_104 rfl ?_
      refine J_iload (pc1 := 107) rfl dL_isStep_105 rfl ?_
      refine J_iload (pc1 := 109) rfl dL_isStep_107 rfl ?_
      refine J_mA (pc1 := 112) gv_L_27 yv_X9_set h1 (m_set (k := 2) (v := upF y 2) (by decide) (by omega) hP) dL_isStep_109 rfl rfl rfl (by omega) (by decide) (by omega) (by omega) (Nat.le_of_ble_eq_true rfl) (fun S2 h2 => ?_)
      refine J_iload (pc1 := 114) rfl dL_isStep_112 rfl ?_
      refine J_neS (pc1 := 117) (tgt := 152) dL_isStep_114 rfl rfl (rfl) ?_
      refine J_aload_n (pc1 := 118) rfl (i := 1) rfl dL_isStep_117 rfl ?_
      refine J_iload (pc1 := 120) rfl dL_isStep_118 rfl ?_
      refine J_iload (pc1 := 122) rfl dL_isStep_120 rfl ?_
      refine J_mB (pc1 := 125) gv_L_27 yv_X9_set h2 (m_set (k := 2) (v := upF y 2) (by decide) (by omega) hP) dL_isStep_122 rfl rfl rfl (by omega) (by decide) (by omega) (by omega) (Nat.le_of_ble_eq_true rfl) (fun S3 h3 => ?_)
      refine J_iload (pc1 := 127) rfl dL_isStep_125 rfl ?_
      refine J_neS (pc1 := 130) (tgt := 152) dL_isStep_127 rfl rfl (rfl) ?_
      refine J_aload_n (pc1 := 131) rfl (i := 0) rfl dL_isStep_130 rfl ?_
      refine J_iload (pc1 := 133) rfl dL_isStep_131 rfl ?_
      refine J_mA (pc1 := 136) gv_L_23 yv_X9_count h3 (m_cn (w := 2) (z := upF y 2) (by decide) rfl) dL_isStep_133 rfl rfl rfl (by omega) (by decide) (by omega) (by omega) (Nat.le_of_ble_eq_true rfl) (fun S4 h4 => ?_)
      refine J_iload (pc1 := 138) rfl dL_isStep_136 rfl ?_
      refine J_neS (pc1 := 141) (tgt := 152) dL_isStep_138 rfl rfl (rfl) ?_
      refine J_aload_n (pc1 := 142) rfl (i := 0) rfl dL_isStep_141 rfl ?_
      refine J_sA (pc1 := 145) gs_L_30 yv_L_isNew h4 (m_isNew (isN_new hE)) dL_isStep_142 rfl rfl rfl (by omega) (by decide) (by omega) (by omega) (Nat.le_of_ble_eq_true rfl) (fun S5 h5 => ?_)
      refine J_if_eq (pc1 := 148) (tgt := 152) (by decide) (by decide) dL_isStep_145 rfl rfl (fun hc3 => ?_) (fun hc3 => ?_)
      · exact absurd hc3 (by decide)
      · refine J_iconst (pc1 := 149) dL_isStep_148 rfl ?_
        refine J_goto (tgt := 153) dL_isStep_149 rfl ?_
        exact J_iret rfl rfl dL_isStep_153 (by omega) (by omega) (kIS_mk rfl ⟨_, _, _, _, _, h5⟩)
    · exact absurd hc2 (by decide)
  · exact absurd hc1 (by decide)
set_option maxHeartbeats 2000000 in
set_option maxRecDepth 20000 in
theorem st_set3 (hX : P2 S A B g tx L g tx2 L2) (hk : upF (x >>> (iI 4 &&& 31)) 4 = 3) : Jd yL_isStep cL_isStep 9 (some .boolean) 10 80 24000 (kIS 1 (fun T => LI T A B)) 0 0 S 52 [some (.ref (A 0)), some (.ref (B 0)), some (.int x), some (.int y), some (.int (x >>> (iI 4 &&& 31))), none, none, none, none] [] := by
  have ok := hX.oa.1.1
  have u3 := upF_b y (n := 3) (by decide)
  have u2 := upF_b y (n := 2) (by decide)
  have hP : (0 ≤ (3 : Int) ∧ (3 : Int) ≤ 3) ∧ (if (3 : Int) = 0 then 1 else 0) ≤ upF y 2 ∧ upF y 2 ≤ (if (3 : Int) = 0 then (3 : Int) else if (3 : Int) = 1 then 2 else 1) := ⟨by decide, show (0 : Int) ≤ upF y 2 by omega, show upF y 2 ≤ (1 : Int) by omega⟩
  have hE : 1 ≤ (uZ g.1 3 (upF y 2)) 0 := show 1 ≤ g.1 0 from ok.1.1
  refine J_iload (pc1 := 54) rfl dL_isStep_52 rfl ?_
  refine J_iconst (pc1 := 55) dL_isStep_54 rfl ?_
  refine J_callSI (pc1 := 58) (As := [.int (x >>> (iI 4 &&& 31)), .int (iI 4)]) gs_L_17 yv_L_up ((c_L_upZ (x := (x >>> (iI 4 &&& 31))) (n := 4) (z := 3) ⟨by decide, by decide⟩ (hk))) dL_isStep_55 rfl rfl rfl (by omega) (by decide) (by omega) (by omega) (Nat.le_of_ble_eq_true rfl) ?_
  refine J_istore (pc1 := 60) (L1 := [some (.ref (A 0)), some (.ref (B 0)), some (.int x), some (.int y), some (.int (x >>> (iI 4 &&& 31))), some (.int (iI 3)), none, none, none]) dL_isStep_58 rfl (by decide) rfl rfl ?_
  refine J_iload (pc1 := 62) rfl dL_isStep_60 rfl ?_
  refine J_if_ne (pc1 := 65) (tgt := 75) (by decide) (by decide) dL_isStep_62 rfl rfl (fun hc1 => ?_) (fun hc1 => ?_)
  · refine J_iload (pc1 := 77) rfl dL_isStep_75 rfl ?_
    refine J_iconst (pc1 := 78) dL_isStep_77 rfl ?_
    refine J_icmp_ne (pc1 := 81) (tgt := 89) (by decide) (by decide) (by decide) (by decide) dL_isStep_78 rfl rfl (fun hc2 => ?_) (fun hc2 => ?_)
    · refine J_iload_n (pc1 := 90) rfl (i := 3) rfl dL_isStep_89 rfl ?_
      refine J_iconst (pc1 := 91) dL_isStep_90 rfl ?_
      refine J_callSI (pc1 := 94) (As := [.int y, .int (iI 2)]) gs_L_17 yv_L_up ((c_L_upZ (x := y) (n := 2) (z := upF y 2) ⟨by decide, by decide⟩ (rfl))) dL_isStep_91 rfl rfl rfl (by omega) (by decide) (by omega) (by omega) (Nat.le_of_ble_eq_true rfl) ?_
      refine J_istore (pc1 := 96) (L1 := [some (.ref (A 0)), some (.ref (B 0)), some (.int x), some (.int y), some (.int (x >>> (iI 4 &&& 31))), some (.int (iI 3)), some (.int (iI (upF y 2))), none, none]) dL_isStep_94 rfl (by decide) rfl rfl ?_
      refine J_aload_n (pc1 := 97) rfl (i := 0) rfl dL_isStep_96 rfl ?_
      refine J_iload (pc1 := 99) rfl dL_isStep_97 rfl ?_
      refine J_mA (pc1 := 102) gv_L_23 yv_X9_count hX (m_cn (w := 3) (z := g.1 3) (by decide) rfl) dL_isStep_99 rfl rfl rfl (by omega) (by decide) (by omega) (by omega) (Nat.le_of_ble_eq_true rfl) (fun S1 h1 => ?_)
      refine J_istore (pc1 := 104) (L1 := [some (.ref (A 0)), some (.ref (B 0)), some (.int x), some (.int y), some (.int (x >>> (iI 4 &&& 31))), some (.int (iI 3)), some (.int (iI (upF y 2))), some (.int (iI (g.1 3))), none]) dL_isStep_102 rfl (by decide) rfl rfl ?_
      refine J_aload_n (pc1 := 105) rfl (i := 0) rfl dL_isStep_104 rfl ?_
      refine J_iload (pc1 := 107) rfl dL_isStep_105 rfl ?_
      refine J_iload (pc1 := 109) rfl dL_isStep_107 rfl ?_
      refine J_mA (pc1 := 112) gv_L_27 yv_X9_set h1 (m_set (k := 3) (v := upF y 2) (by decide) (by omega) hP) dL_isStep_109 rfl rfl rfl (by omega) (by decide) (by omega) (by omega) (Nat.le_of_ble_eq_true rfl) (fun S2 h2 => ?_)
      refine J_iload (pc1 := 114) rfl dL_isStep_112 rfl ?_
      refine J_neS (pc1 := 117) (tgt := 152) dL_isStep_114 rfl rfl (rfl) ?_
      refine J_aload_n (pc1 := 118) rfl (i := 1) rfl dL_isStep_117 rfl ?_
      refine J_iload (pc1 := 120) rfl dL_isStep_118 rfl ?_
      refine J_iload (pc1 := 122) rfl dL_isStep_120 rfl ?_
      refine J_mB (pc1 := 125) gv_L_27 yv_X9_set h2 (m_set (k := 3) (v := upF y 2) (by decide) (by omega) hP) dL_isStep_122 rfl rfl rfl (by omega) (by decide) (by omega) (by omega) (Nat.le_of_ble_eq_true rfl) (fun S3 h3 => ?_)
      refine J_iload (pc1 := 127) rfl dL_isStep_125 rfl ?_
      refine J_neS (pc1 := 130) (tgt := 152) dL_isStep_127 rfl rfl (rfl) ?_
      refine J_aload_n (pc1 := 131) rfl (i := 0) rfl dL_isStep_130 rfl ?_
      refine J_iload (pc1 := 133) rfl dL_isStep_131 rfl ?_
      refine J_mA (pc1 := 136) gv_L_23 yv_X9_count h3 (m_cn (w := 3) (z := upF y 2) (by decide) rfl) dL_isStep_133 rfl rfl rfl (by omega) (by decide) (by omega) (by omega) (Nat.le_of_ble_eq_true rfl) (fun S4 h4 => ?_)
      refine J_iload (pc1 := 138) rfl dL_isStep_136 rfl ?_
      refine J_neS (pc1 := 141) (tgt := 152) dL_isStep_138 rfl rfl (rfl) ?_
      refine J_aload_n (pc1 := 142) rfl (i := 0) rfl dL_isStep_141 rfl ?_
      refine J_sA (pc1 := 145) gs_L_30 yv_L_isNew h4 (m_isNew (isN_new hE)) dL_isStep_142 rfl rfl rfl (by omega) (by decide) (by omega) (by omega) (Nat.le_of_ble_eq_true rfl) (fun S5 h5 => ?_)
      refine J_if_eq (pc1 := 148) (tgt := 152) (by decide) (by decide) dL_isStep_145 rfl rfl (fun hc3 => ?_) (fun hc3 => ?_)
      · exact absurd hc3 (by decide)
      · refine J_iconst (pc1 := 149) dL_isStep_148 rfl ?_
        refine J_goto (tgt := 153) dL_isStep_149 rfl ?_
        exact J_iret rfl rfl dL_isStep_153 (by omega) (by omega) (kIS_mk rfl ⟨_, _, _, _, _, h5⟩)
    · exact absurd hc2 (by decide)
  · exact absurd hc1 (by decide)
set_option maxHeartbeats 2000000 in
set_option maxRecDepth 20000 in
theorem st_begin (hX : P2 S A B g tx L g tx2 L2)  : Jd yL_isStep cL_isStep 9 (some .boolean) 10 80 24000 (kIS 1 (fun T => LI T A B)) 0 0 S 154 [some (.ref (A 0)), some (.ref (B 0)), some (.int x), some (.int y), some (.int (x >>> (iI 4 &&& 31))), none, none, none, none] [] := by
  have ok := hX.oa.1.1
  have u1 := upF_b y (n := 7) (by decide)
  have u2 := upF_b (y >>> (iI 3 &&& 31)) (n := 7) (by decide)
  refine J_iload_n (pc1 := 155) rfl (i := 3) rfl dL_isStep_154 rfl ?_
  refine J_bipush (pc1 := 157) (by decide) dL_isStep_155 rfl ?_
  refine J_callSI (pc1 := 160) (As := [.int y, .int (iI 7)]) gs_L_17 yv_L_up ((c_L_upZ (x := y) (n := 7) (z := upF y 7) ⟨by decide, by decide⟩ (rfl))) dL_isStep_157 rfl rfl rfl (by omega) (by decide) (by omega) (by omega) (Nat.le_of_ble_eq_true rfl) ?_
  refine J_istore (pc1 := 162) (L1 := [some (.ref (A 0)), some (.ref (B 0)), some (.int x), some (.int y), some (.int (x >>> (iI 4 &&& 31))), some (.int (iI (upF y 7))), none, none, none]) dL_isStep_160 rfl (by decide) rfl rfl ?_
  refine J_iload_n (pc1 := 163) rfl (i := 3) rfl dL_isStep_162 rfl ?_
  refine J_iconst (pc1 := 164) dL_isStep_163 rfl ?_
  refine J_ishr (pc1 := 165) dL_isStep_164 rfl ?_
  refine J_bipush (pc1 := 167) (by decide) dL_isStep_165 rfl ?_
  refine J_callSI (pc1 := 170) (As := [.int (y >>> ((iI 3) &&& 31)), .int (iI 7)]) gs_L_17 yv_L_up ((c_L_upZ (x := (y >>> ((iI 3) &&& 31))) (n := 7) (z := upF (y >>> ((iI 3) &&& 31)) 7) ⟨by decide, by decide⟩ (rfl))) dL_isStep_167 rfl rfl rfl (by omega) (by decide) (by omega) (by omega) (Nat.le_of_ble_eq_true rfl) ?_
  refine J_istore (pc1 := 172) (L1 := [some (.ref (A 0)), some (.ref (B 0)), some (.int x), some (.int y), some (.int (x >>> (iI 4 &&& 31))), some (.int (iI (upF y 7))), some (.int (iI (upF (y >>> ((iI 3) &&& 31)) 7))), none, none]) dL_isStep_170 rfl (by decide) rfl rfl ?_
  refine J_aload_n (pc1 := 173) rfl (i := 0) rfl dL_isStep_172 rfl ?_
  refine J_bipush (pc1 := 175) (by decide) dL_isStep_173 rfl ?_
  refine J_mA (pc1 := 178) gv_L_23 yv_X9_count hX (m_cn (w := 6) (z := g.1 6) (by decide) rfl) dL_isStep_175 rfl rfl rfl (by omega) (by decide) (by omega) (by omega) (Nat.le_of_ble_eq_true rfl) (fun S1 h1 => ?_)
  refine J_istore (pc1 := 180) (L1 := [some (.ref (A 0)), some (.ref (B 0)), some (.int x), some (.int y), some (.int (x >>> (iI 4 &&& 31))), some (.int (iI (upF y 7))), some (.int (iI (upF (y >>> ((iI 3) &&& 31)) 7))), some (.int (iI (g.1 6))), none]) dL_isStep_178 rfl (by decide) rfl rfl ?_
  refine J_aload_n (pc1 := 181) rfl (i := 0) rfl dL_isStep_180 rfl ?_
  refine J_iload (pc1 := 183) rfl dL_isStep_181 rfl ?_
  refine J_iload (pc1 := 185) rfl dL_isStep_183 rfl ?_
  refine J_mA (pc1 := 188) gv_L_34 yv_X9_begin h1 (m_begin (a := upF y 7) (b := upF (y >>> (iI 3 &&& 31)) 7) ⟨by omega, by omega⟩) dL_isStep_185 rfl rfl rfl (by omega) (by decide) (by omega) (by omega) (Nat.le_of_ble_eq_true rfl) (fun S2 h2 => ?_)
  refine J_iload (pc1 := 190) rfl dL_isStep_188 rfl ?_
  refine J_neS (pc1 := 193) (tgt := 239) dL_isStep_190 rfl rfl (rfl) ?_
  refine J_aload_n (pc1 := 194) rfl (i := 1) rfl dL_isStep_193 rfl ?_
  refine J_iload (pc1 := 196) rfl dL_isStep_194 rfl ?_
  refine J_iload (pc1 := 198) rfl dL_isStep_196 rfl ?_
  refine J_mB (pc1 := 201) gv_L_34 yv_X9_begin h2 (m_begin (a := upF y 7) (b := upF (y >>> (iI 3 &&& 31)) 7) ⟨by omega, by omega⟩) dL_isStep_198 rfl rfl rfl (by omega) (by decide) (by omega) (by omega) (Nat.le_of_ble_eq_true rfl) (fun S3 h3 => ?_)
  refine J_iload (pc1 := 203) rfl dL_isStep_201 rfl ?_
  refine J_neS (pc1 := 206) (tgt := 239) dL_isStep_203 rfl rfl (rfl) ?_
  refine J_aload_n (pc1 := 207) rfl (i := 0) rfl dL_isStep_206 rfl ?_
  refine J_sA (pc1 := 210) gs_L_30 yv_L_isNew h3 (m_isNew (isN_new (g := uZ (uZ g.1 9 (upF y 7)) 10 (upF (y >>> (iI 3 &&& 31)) 7)) ok.1.1)) dL_isStep_207 rfl rfl rfl (by omega) (by decide) (by omega) (by omega) (Nat.le_of_ble_eq_true rfl) (fun S4 h4 => ?_)
  refine J_if_eq (pc1 := 213) (tgt := 239) (by decide) (by decide) dL_isStep_210 rfl rfl (fun hc1 => ?_) (fun hc1 => ?_)
  · exact absurd hc1 (by decide)
  · refine J_aload_n (pc1 := 214) rfl (i := 0) rfl dL_isStep_213 rfl ?_
    refine J_iconst (pc1 := 215) dL_isStep_214 rfl ?_
    refine J_iconst (pc1 := 216) dL_isStep_215 rfl ?_
    refine J_mA (pc1 := 219) gv_L_37 yv_X9_player h4 (m_pl (p := 0) (w := 0) (z := upF y 7) (Or.inl rfl) (by decide) rfl) dL_isStep_216 rfl rfl rfl (by omega) (by decide) (by omega) (by omega) (Nat.le_of_ble_eq_true rfl) (fun S5 h5 => ?_)
    refine J_iload (pc1 := 221) rfl dL_isStep_219 rfl ?_
    refine J_neS (pc1 := 224) (tgt := 239) dL_isStep_221 rfl rfl (rfl) ?_
    refine J_aload_n (pc1 := 225) rfl (i := 0) rfl dL_isStep_224 rfl ?_
    refine J_iconst (pc1 := 226) dL_isStep_225 rfl ?_
    refine J_iconst (pc1 := 227) dL_isStep_226 rfl ?_
    refine J_mA (pc1 := 230) gv_L_37 yv_X9_player h5 (m_pl (p := 1) (w := 0) (z := upF (y >>> (iI 3 &&& 31)) 7) (Or.inr rfl) (by decide) rfl) dL_isStep_227 rfl rfl rfl (by omega) (by decide) (by omega) (by omega) (Nat.le_of_ble_eq_true rfl) (fun S6 h6 => ?_)
    refine J_iload (pc1 := 232) rfl dL_isStep_230 rfl ?_
    refine J_neS (pc1 := 235) (tgt := 239) dL_isStep_232 rfl rfl (rfl) ?_
    refine J_iconst (pc1 := 236) dL_isStep_235 rfl ?_
    refine J_goto (tgt := 240) dL_isStep_236 rfl ?_
    exact J_iret rfl rfl dL_isStep_240 (by omega) (by omega) (kIS_mk rfl ⟨_, _, _, _, _, h6⟩)
set_option maxHeartbeats 2000000 in
set_option maxRecDepth 20000 in
theorem st_playX0 (hX : P2 S A B g tx L g tx2 L2) (hw : winF g.1 = 0) : Jd yL_isStep cL_isStep 9 (some .boolean) 10 80 24000 (kIS 1 (fun T => LI T A B)) 0 0 S 241 [some (.ref (A 0)), some (.ref (B 0)), some (.int x), some (.int y), some (.int (x >>> (iI 4 &&& 31))), none, none, none, none] [] := by
  refine J_aload_n (pc1 := 242) rfl (i := 0) rfl dL_isStep_241 rfl ?_
  refine J_bipush (pc1 := 244) (by decide) dL_isStep_242 rfl ?_
  refine J_mA (pc1 := 247) gv_L_23 yv_X9_count hX (m_cn (w := 7) (z := 0) (by decide) (cz7.trans hw)) dL_isStep_244 rfl rfl rfl (by omega) (by decide) (by omega) (by omega) (Nat.le_of_ble_eq_true rfl) (fun S1 h1 => ?_)
  refine J_sipush (pc1 := 250) (by decide) dL_isStep_247 rfl ?_
  refine J_icmp_eq (pc1 := 253) (tgt := 279) (by decide) (by decide) (by decide) (by decide) dL_isStep_250 rfl rfl (fun hc1 => ?_) (fun hc1 => ?_)
  · exact absurd hc1 (by decide)
  · refine J_aload_n (pc1 := 254) rfl (i := 0) rfl dL_isStep_253 rfl ?_
    refine J_mA (pc1 := 257) gv_L_40 yv_X9_play h1 (m_playX (by rw [hw]; decide)) dL_isStep_254 rfl rfl rfl (by omega) (by decide) (by omega) (by omega) (Nat.le_of_ble_eq_true rfl) (fun S2 h2 => ?_)
    refine J_sipush (pc1 := 260) (by decide) dL_isStep_257 rfl ?_
    refine J_icmp_ne (pc1 := 263) (tgt := 277) (by decide) (by decide) (by decide) (by decide) dL_isStep_260 rfl rfl (fun hc2 => ?_) (fun hc2 => ?_)
    · exact absurd hc2 (by decide)
    · refine J_aload_n (pc1 := 264) rfl (i := 1) rfl dL_isStep_263 rfl ?_
      refine J_mB (pc1 := 267) gv_L_40 yv_X9_play h2 (m_playX (by rw [hw]; decide)) dL_isStep_264 rfl rfl rfl (by omega) (by decide) (by omega) (by omega) (Nat.le_of_ble_eq_true rfl) (fun S3 h3 => ?_)
      refine J_sipush (pc1 := 270) (by decide) dL_isStep_267 rfl ?_
      refine J_icmp_ne (pc1 := 273) (tgt := 277) (by decide) (by decide) (by decide) (by decide) dL_isStep_270 rfl rfl (fun hc3 => ?_) (fun hc3 => ?_)
      · exact absurd hc3 (by decide)
      · refine J_iconst (pc1 := 274) dL_isStep_273 rfl ?_
        refine J_goto (tgt := 278) dL_isStep_274 rfl ?_
        exact J_iret rfl rfl dL_isStep_278 (by omega) (by omega) (kIS_mk rfl ⟨_, _, _, _, _, h3⟩)
set_option maxHeartbeats 2000000 in
set_option maxRecDepth 20000 in
theorem st_playX1 (hX : P2 S A B g tx L g tx2 L2) (hw : winF g.1 = 1) : Jd yL_isStep cL_isStep 9 (some .boolean) 10 80 24000 (kIS 1 (fun T => LI T A B)) 0 0 S 241 [some (.ref (A 0)), some (.ref (B 0)), some (.int x), some (.int y), some (.int (x >>> (iI 4 &&& 31))), none, none, none, none] [] := by
  refine J_aload_n (pc1 := 242) rfl (i := 0) rfl dL_isStep_241 rfl ?_
  refine J_bipush (pc1 := 244) (by decide) dL_isStep_242 rfl ?_
  refine J_mA (pc1 := 247) gv_L_23 yv_X9_count hX (m_cn (w := 7) (z := 1) (by decide) (cz7.trans hw)) dL_isStep_244 rfl rfl rfl (by omega) (by decide) (by omega) (by omega) (Nat.le_of_ble_eq_true rfl) (fun S1 h1 => ?_)
  refine J_sipush (pc1 := 250) (by decide) dL_isStep_247 rfl ?_
  refine J_icmp_eq (pc1 := 253) (tgt := 279) (by decide) (by decide) (by decide) (by decide) dL_isStep_250 rfl rfl (fun hc1 => ?_) (fun hc1 => ?_)
  · exact absurd hc1 (by decide)
  · refine J_aload_n (pc1 := 254) rfl (i := 0) rfl dL_isStep_253 rfl ?_
    refine J_mA (pc1 := 257) gv_L_40 yv_X9_play h1 (m_playX (by rw [hw]; decide)) dL_isStep_254 rfl rfl rfl (by omega) (by decide) (by omega) (by omega) (Nat.le_of_ble_eq_true rfl) (fun S2 h2 => ?_)
    refine J_sipush (pc1 := 260) (by decide) dL_isStep_257 rfl ?_
    refine J_icmp_ne (pc1 := 263) (tgt := 277) (by decide) (by decide) (by decide) (by decide) dL_isStep_260 rfl rfl (fun hc2 => ?_) (fun hc2 => ?_)
    · exact absurd hc2 (by decide)
    · refine J_aload_n (pc1 := 264) rfl (i := 1) rfl dL_isStep_263 rfl ?_
      refine J_mB (pc1 := 267) gv_L_40 yv_X9_play h2 (m_playX (by rw [hw]; decide)) dL_isStep_264 rfl rfl rfl (by omega) (by decide) (by omega) (by omega) (Nat.le_of_ble_eq_true rfl) (fun S3 h3 => ?_)
      refine J_sipush (pc1 := 270) (by decide) dL_isStep_267 rfl ?_
      refine J_icmp_ne (pc1 := 273) (tgt := 277) (by decide) (by decide) (by decide) (by decide) dL_isStep_270 rfl rfl (fun hc3 => ?_) (fun hc3 => ?_)
      · exact absurd hc3 (by decide)
      · refine J_iconst (pc1 := 274) dL_isStep_273 rfl ?_
        refine J_goto (tgt := 278) dL_isStep_274 rfl ?_
        exact J_iret rfl rfl dL_isStep_278 (by omega) (by omega) (kIS_mk rfl ⟨_, _, _, _, _, h3⟩)
set_option maxHeartbeats 2000000 in
set_option maxRecDepth 20000 in
theorem st_play0 (hX : P2 S A B g tx L g tx2 L2) (hw : winF g.1 = -1006) (q5 : g.1 5 = 0) : Jd yL_isStep cL_isStep 9 (some .boolean) 10 80 24000 (kIS 1 (fun T => LI T A B)) 0 0 S 241 [some (.ref (A 0)), some (.ref (B 0)), some (.int x), some (.int y), some (.int (x >>> (iI 4 &&& 31))), none, none, none, none] [] := by
  have ok := hX.oa.1.1
  have a0 := tm_b g.1 0
  have a1 := tm_b g.1 1
  have b0 := tm_b (plF g.1 (fbF g.1) (faF g.1 (fbF g.1))) 0
  have b1 := tm_b (plF g.1 (fbF g.1) (faF g.1 (fbF g.1))) 1
  have q0 : 0 ≤ tmF g.1 0 → 0 ≤ tmF (plF g.1 (fbF g.1) (faF g.1 (fbF g.1))) 0 ∧ tmF (plF g.1 (fbF g.1) (faF g.1 (fbF g.1))) 0 ≤ tmF g.1 0 - 1 := tm_play ok hw (by omega)
  have q1 : 0 ≤ tmF g.1 1 → 0 ≤ tmF (plF g.1 (fbF g.1) (faF g.1 (fbF g.1))) 1 ∧ tmF (plF g.1 (fbF g.1) (faF g.1 (fbF g.1))) 1 ≤ tmF g.1 1 - 1 := tm_play ok hw (by omega)
  refine J_aload_n (pc1 := 242) rfl (i := 0) rfl dL_isStep_241 rfl ?_
  refine J_bipush (pc1 := 244) (by decide) dL_isStep_242 rfl ?_
  refine J_mA (pc1 := 247) gv_L_23 yv_X9_count hX (m_cn (w := 7) (z := (-1006)) (by decide) (cz7.trans hw)) dL_isStep_244 rfl rfl rfl (by omega) (by decide) (by omega) (by omega) (Nat.le_of_ble_eq_true rfl) (fun S1 h1 => ?_)
  refine J_sipush (pc1 := 250) (by decide) dL_isStep_247 rfl ?_
  refine J_icmp_eq (pc1 := 253) (tgt := 279) (by decide) (by decide) (by decide) (by decide) dL_isStep_250 rfl rfl (fun hc1 => ?_) (fun hc1 => ?_)
  · refine J_aload_n (pc1 := 280) rfl (i := 0) rfl dL_isStep_279 rfl ?_
    refine J_iconst (pc1 := 281) dL_isStep_280 rfl ?_
    refine J_mA (pc1 := 284) gv_L_23 yv_X9_count h1 (m_cn (w := 5) (z := 0) (by decide) ((cz5 hw).trans q5)) dL_isStep_281 rfl rfl rfl (by omega) (by decide) (by omega) (by omega) (Nat.le_of_ble_eq_true rfl) (fun S2 h2 => ?_)
    refine J_istore (pc1 := 286) (L1 := [some (.ref (A 0)), some (.ref (B 0)), some (.int x), some (.int y), some (.int (x >>> (iI 4 &&& 31))), some (.int (iI 0)), none, none, none]) dL_isStep_284 rfl (by decide) rfl rfl ?_
    refine J_aload_n (pc1 := 287) rfl (i := 0) rfl dL_isStep_286 rfl ?_
    refine J_iload (pc1 := 289) rfl dL_isStep_287 rfl ?_
    refine J_bipush (pc1 := 291) (by decide) dL_isStep_289 rfl ?_
    refine J_mA (pc1 := 294) gv_L_37 yv_X9_player h2 (m_pl (p := 0) (w := 6) (z := tmF g.1 0) (Or.inl rfl) (by decide) rfl) dL_isStep_291 rfl rfl rfl (by omega) (by decide) (by omega) (by omega) (Nat.le_of_ble_eq_true rfl) (fun S3 h3 => ?_)
    refine J_istore (pc1 := 296) (L1 := [some (.ref (A 0)), some (.ref (B 0)), some (.int x), some (.int y), some (.int (x >>> (iI 4 &&& 31))), some (.int (iI 0)), some (.int (iI (tmF g.1 0))), none, none]) dL_isStep_294 rfl (by decide) rfl rfl ?_
    refine J_aload_n (pc1 := 297) rfl (i := 0) rfl dL_isStep_296 rfl ?_
    refine J_iconst (pc1 := 298) dL_isStep_297 rfl ?_
    refine J_iload (pc1 := 300) rfl dL_isStep_298 rfl ?_
    refine J_isubE (pc1 := 301) (z := 1) (by decide) dL_isStep_300 rfl ?_
    refine J_bipush (pc1 := 303) (by decide) dL_isStep_301 rfl ?_
    refine J_mA (pc1 := 306) gv_L_37 yv_X9_player h3 (m_pl (p := 1) (w := 6) (z := tmF g.1 1) (Or.inr rfl) (by decide) rfl) dL_isStep_303 rfl rfl rfl (by omega) (by decide) (by omega) (by omega) (Nat.le_of_ble_eq_true rfl) (fun S4 h4 => ?_)
    refine J_istore (pc1 := 308) (L1 := [some (.ref (A 0)), some (.ref (B 0)), some (.int x), some (.int y), some (.int (x >>> (iI 4 &&& 31))), some (.int (iI 0)), some (.int (iI (tmF g.1 0))), some (.int (iI (tmF g.1 1))), none]) dL_isStep_306 rfl (by decide) rfl rfl ?_
    refine J_aload_n (pc1 := 309) rfl (i := 0) rfl dL_isStep_308 rfl ?_
    refine J_mA (pc1 := 312) gv_L_40 yv_X9_play h4 (m_play hw) dL_isStep_309 rfl rfl rfl (by omega) (by decide) (by omega) (by omega) (Nat.le_of_ble_eq_true rfl) (fun S5 h5 => ?_)
    refine J_istore (pc1 := 314) (L1 := [some (.ref (A 0)), some (.ref (B 0)), some (.int x), some (.int y), some (.int (x >>> (iI 4 &&& 31))), some (.int (iI 0)), some (.int (iI (tmF g.1 0))), some (.int (iI (tmF g.1 1))), some (.int (iI (tkF g.1 (fbF g.1) (faF g.1 (fbF g.1)))))]) dL_isStep_312 rfl (by decide) rfl rfl ?_
    refine J_iload (pc1 := 316) rfl dL_isStep_314 rfl ?_
    refine J_aload_n (pc1 := 317) rfl (i := 1) rfl dL_isStep_316 rfl ?_
    refine J_mB (pc1 := 320) gv_L_40 yv_X9_play h5 (m_play hw) dL_isStep_317 rfl rfl rfl (by omega) (by decide) (by omega) (by omega) (Nat.le_of_ble_eq_true rfl) (fun S6 h6 => ?_)
    refine J_neS (pc1 := 323) (tgt := 393) dL_isStep_320 rfl rfl (rfl) ?_
    refine J_iload (pc1 := 325) rfl dL_isStep_323 rfl ?_
    refine J_if_lt (pc1 := 328) (tgt := 354) (by omega) (by omega) dL_isStep_325 rfl rfl (fun hc2 => ?_) (fun hc2 => ?_)
    · refine J_iload (pc1 := 356) rfl dL_isStep_354 rfl ?_
      refine J_if_lt (pc1 := 359) (tgt := 389) (by omega) (by omega) dL_isStep_356 rfl rfl (fun hc3 => ?_) (fun hc3 => ?_)
      · refine J_iconst (pc1 := 390) dL_isStep_389 rfl ?_
        refine J_goto (tgt := 394) dL_isStep_390 rfl ?_
        exact J_iret rfl rfl dL_isStep_394 (by omega) (by omega) (kIS_mk rfl ⟨_, _, _, _, _, h6⟩)
      · refine J_aload_n (pc1 := 360) rfl (i := 0) rfl dL_isStep_359 rfl ?_
        refine J_iconst (pc1 := 361) dL_isStep_360 rfl ?_
        refine J_iload (pc1 := 363) rfl dL_isStep_361 rfl ?_
        refine J_isubE (pc1 := 364) (z := 1) (by decide) dL_isStep_363 rfl ?_
        refine J_bipush (pc1 := 366) (by decide) dL_isStep_364 rfl ?_
        refine J_mA (pc1 := 369) gv_L_37 yv_X9_player h6 (m_pl (p := 1) (w := 6) (z := tmF (plF g.1 (fbF g.1) (faF g.1 (fbF g.1))) 1) (Or.inr rfl) (by decide) rfl) dL_isStep_366 rfl rfl rfl (by omega) (by decide) (by omega) (by omega) (Nat.le_of_ble_eq_true rfl) (fun S7 h7 => ?_)
        refine J_if_lt (pc1 := 372) (tgt := 393) (by omega) (by omega) dL_isStep_369 rfl rfl (fun hc4 => ?_) (fun hc4 => ?_)
        · exact absurd hc4 (by omega)
        · refine J_aload_n (pc1 := 373) rfl (i := 0) rfl dL_isStep_372 rfl ?_
          refine J_iconst (pc1 := 374) dL_isStep_373 rfl ?_
          refine J_iload (pc1 := 376) rfl dL_isStep_374 rfl ?_
          refine J_isubE (pc1 := 377) (z := 1) (by decide) dL_isStep_376 rfl ?_
          refine J_bipush (pc1 := 379) (by decide) dL_isStep_377 rfl ?_
          refine J_mA (pc1 := 382) gv_L_37 yv_X9_player h7 (m_pl (p := 1) (w := 6) (z := tmF (plF g.1 (fbF g.1) (faF g.1 (fbF g.1))) 1) (Or.inr rfl) (by decide) rfl) dL_isStep_379 rfl rfl rfl (by omega) (by decide) (by omega) (by omega) (Nat.le_of_ble_eq_true rfl) (fun S8 h8 => ?_)
          refine J_iload (pc1 := 384) rfl dL_isStep_382 rfl ?_
          refine J_iconst (pc1 := 385) dL_isStep_384 rfl ?_
          refine J_isub (pc1 := 386) dL_isStep_385 rfl ?_
          refine J_icmp_gt (pc1 := 389) (tgt := 393) (by omega) (by omega) (by omega) (by omega) dL_isStep_386 rfl rfl (fun hc5 => ?_) (fun hc5 => ?_)
          · exact absurd hc5 (by omega)
          · refine J_iconst (pc1 := 390) dL_isStep_389 rfl ?_
            refine J_goto (tgt := 394) dL_isStep_390 rfl ?_
            exact J_iret rfl rfl dL_isStep_394 (by omega) (by omega) (kIS_mk rfl ⟨_, _, _, _, _, h8⟩)
    · refine J_aload_n (pc1 := 329) rfl (i := 0) rfl dL_isStep_328 rfl ?_
      refine J_iload (pc1 := 331) rfl dL_isStep_329 rfl ?_
      refine J_bipush (pc1 := 333) (by decide) dL_isStep_331 rfl ?_
      refine J_mA (pc1 := 336) gv_L_37 yv_X9_player h6 (m_pl (p := 0) (w := 6) (z := tmF (plF g.1 (fbF g.1) (faF g.1 (fbF g.1))) 0) (Or.inl rfl) (by decide) rfl) dL_isStep_333 rfl rfl rfl (by omega) (by decide) (by omega) (by omega) (Nat.le_of_ble_eq_true rfl) (fun S9 h9 => ?_)
      refine J_if_lt (pc1 := 339) (tgt := 393) (by omega) (by omega) dL_isStep_336 rfl rfl (fun hc6 => ?_) (fun hc6 => ?_)
      · exact absurd hc6 (by omega)
      · refine J_aload_n (pc1 := 340) rfl (i := 0) rfl dL_isStep_339 rfl ?_
        refine J_iload (pc1 := 342) rfl dL_isStep_340 rfl ?_
        refine J_bipush (pc1 := 344) (by decide) dL_isStep_342 rfl ?_
        refine J_mA (pc1 := 347) gv_L_37 yv_X9_player h9 (m_pl (p := 0) (w := 6) (z := tmF (plF g.1 (fbF g.1) (faF g.1 (fbF g.1))) 0) (Or.inl rfl) (by decide) rfl) dL_isStep_344 rfl rfl rfl (by omega) (by decide) (by omega) (by omega) (Nat.le_of_ble_eq_true rfl) (fun S10 h10 => ?_)
        refine J_iload (pc1 := 349) rfl dL_isStep_347 rfl ?_
        refine J_iconst (pc1 := 350) dL_isStep_349 rfl ?_
        refine J_isub (pc1 := 351) dL_isStep_350 rfl ?_
        refine J_icmp_gt (pc1 := 354) (tgt := 393) (by omega) (by omega) (by omega) (by omega) dL_isStep_351 rfl rfl (fun hc7 => ?_) (fun hc7 => ?_)
        · exact absurd hc7 (by omega)
        · refine J_iload (pc1 := 356) rfl dL_isStep_354 rfl ?_
          refine J_if_lt (pc1 := 359) (tgt := 389) (by omega) (by omega) dL_isStep_356 rfl rfl (fun hc8 => ?_) (fun hc8 => ?_)
          · refine J_iconst (pc1 := 390) dL_isStep_389 rfl ?_
            refine J_goto (tgt := 394) dL_isStep_390 rfl ?_
            exact J_iret rfl rfl dL_isStep_394 (by omega) (by omega) (kIS_mk rfl ⟨_, _, _, _, _, h10⟩)
          · refine J_aload_n (pc1 := 360) rfl (i := 0) rfl dL_isStep_359 rfl ?_
            refine J_iconst (pc1 := 361) dL_isStep_360 rfl ?_
            refine J_iload (pc1 := 363) rfl dL_isStep_361 rfl ?_
            refine J_isubE (pc1 := 364) (z := 1) (by decide) dL_isStep_363 rfl ?_
            refine J_bipush (pc1 := 366) (by decide) dL_isStep_364 rfl ?_
            refine J_mA (pc1 := 369) gv_L_37 yv_X9_player h10 (m_pl (p := 1) (w := 6) (z := tmF (plF g.1 (fbF g.1) (faF g.1 (fbF g.1))) 1) (Or.inr rfl) (by decide) rfl) dL_isStep_366 rfl rfl rfl (by omega) (by decide) (by omega) (by omega) (Nat.le_of_ble_eq_true rfl) (fun S11 h11 => ?_)
            refine J_if_lt (pc1 := 372) (tgt := 393) (by omega) (by omega) dL_isStep_369 rfl rfl (fun hc9 => ?_) (fun hc9 => ?_)
            · exact absurd hc9 (by omega)
            · refine J_aload_n (pc1 := 373) rfl (i := 0) rfl dL_isStep_372 rfl ?_
              refine J_iconst (pc1 := 374) dL_isStep_373 rfl ?_
              refine J_iload (pc1 := 376) rfl dL_isStep_374 rfl ?_
              refine J_isubE (pc1 := 377) (z := 1) (by decide) dL_isStep_376 rfl ?_
              refine J_bipush (pc1 := 379) (by decide) dL_isStep_377 rfl ?_
              refine J_mA (pc1 := 382) gv_L_37 yv_X9_player h11 (m_pl (p := 1) (w := 6) (z := tmF (plF g.1 (fbF g.1) (faF g.1 (fbF g.1))) 1) (Or.inr rfl) (by decide) rfl) dL_isStep_379 rfl rfl rfl (by omega) (by decide) (by omega) (by omega) (Nat.le_of_ble_eq_true rfl) (fun S12 h12 => ?_)
              refine J_iload (pc1 := 384) rfl dL_isStep_382 rfl ?_
              refine J_iconst (pc1 := 385) dL_isStep_384 rfl ?_
              refine J_isub (pc1 := 386) dL_isStep_385 rfl ?_
              refine J_icmp_gt (pc1 := 389) (tgt := 393) (by omega) (by omega) (by omega) (by omega) dL_isStep_386 rfl rfl (fun hc10 => ?_) (fun hc10 => ?_)
              · exact absurd hc10 (by omega)
              · refine J_iconst (pc1 := 390) dL_isStep_389 rfl ?_
                refine J_goto (tgt := 394) dL_isStep_390 rfl ?_
                exact J_iret rfl rfl dL_isStep_394 (by omega) (by omega) (kIS_mk rfl ⟨_, _, _, _, _, h12⟩)
  · exact absurd hc1 (by decide)
set_option maxHeartbeats 2000000 in
set_option maxRecDepth 20000 in
theorem st_play1 (hX : P2 S A B g tx L g tx2 L2) (hw : winF g.1 = -1006) (q5 : g.1 5 = 1) : Jd yL_isStep cL_isStep 9 (some .boolean) 10 80 24000 (kIS 1 (fun T => LI T A B)) 0 0 S 241 [some (.ref (A 0)), some (.ref (B 0)), some (.int x), some (.int y), some (.int (x >>> (iI 4 &&& 31))), none, none, none, none] [] := by
  have ok := hX.oa.1.1
  have a0 := tm_b g.1 0
  have a1 := tm_b g.1 1
  have b0 := tm_b (plF g.1 (fbF g.1) (faF g.1 (fbF g.1))) 0
  have b1 := tm_b (plF g.1 (fbF g.1) (faF g.1 (fbF g.1))) 1
  have q0 : 0 ≤ tmF g.1 0 → 0 ≤ tmF (plF g.1 (fbF g.1) (faF g.1 (fbF g.1))) 0 ∧ tmF (plF g.1 (fbF g.1) (faF g.1 (fbF g.1))) 0 ≤ tmF g.1 0 - 1 := tm_play ok hw (by omega)
  have q1 : 0 ≤ tmF g.1 1 → 0 ≤ tmF (plF g.1 (fbF g.1) (faF g.1 (fbF g.1))) 1 ∧ tmF (plF g.1 (fbF g.1) (faF g.1 (fbF g.1))) 1 ≤ tmF g.1 1 - 1 := tm_play ok hw (by omega)
  refine J_aload_n (pc1 := 242) rfl (i := 0) rfl dL_isStep_241 rfl ?_
  refine J_bipush (pc1 := 244) (by decide) dL_isStep_242 rfl ?_
  refine J_mA (pc1 := 247) gv_L_23 yv_X9_count hX (m_cn (w := 7) (z := (-1006)) (by decide) (cz7.trans hw)) dL_isStep_244 rfl rfl rfl (by omega) (by decide) (by omega) (by omega) (Nat.le_of_ble_eq_true rfl) (fun S1 h1 => ?_)
  refine J_sipush (pc1 := 250) (by decide) dL_isStep_247 rfl ?_
  refine J_icmp_eq (pc1 := 253) (tgt := 279) (by decide) (by decide) (by decide) (by decide) dL_isStep_250 rfl rfl (fun hc1 => ?_) (fun hc1 => ?_)
  · refine J_aload_n (pc1 := 280) rfl (i := 0) rfl dL_isStep_279 rfl ?_
    refine J_iconst (pc1 := 281) dL_isStep_280 rfl ?_
    refine J_mA (pc1 := 284) gv_L_23 yv_X9_count h1 (m_cn (w := 5) (z := 1) (by decide) ((cz5 hw).trans q5)) dL_isStep_281 rfl rfl rfl (by omega) (by decide) (by omega) (by omega) (Nat.le_of_ble_eq_true rfl) (fun S2 h2 => ?_)
    refine J_istore (pc1 := 286) (L1 := [some (.ref (A 0)), some (.ref (B 0)), some (.int x), some (.int y), some (.int (x >>> (iI 4 &&& 31))), some (.int (iI 1)), none, none, none]) dL_isStep_284 rfl (by decide) rfl rfl ?_
    refine J_aload_n (pc1 := 287) rfl (i := 0) rfl dL_isStep_286 rfl ?_
    refine J_iload (pc1 := 289) rfl dL_isStep_287 rfl ?_
    refine J_bipush (pc1 := 291) (by decide) dL_isStep_289 rfl ?_
    refine J_mA (pc1 := 294) gv_L_37 yv_X9_player h2 (m_pl (p := 1) (w := 6) (z := tmF g.1 1) (Or.inr rfl) (by decide) rfl) dL_isStep_291 rfl rfl rfl (by omega) (by decide) (by omega) (by omega) (Nat.le_of_ble_eq_true rfl) (fun S3 h3 => ?_)
    refine J_istore (pc1 := 296) (L1 := [some (.ref (A 0)), some (.ref (B 0)), some (.int x), some (.int y), some (.int (x >>> (iI 4 &&& 31))), some (.int (iI 1)), some (.int (iI (tmF g.1 1))), none, none]) dL_isStep_294 rfl (by decide) rfl rfl ?_
    refine J_aload_n (pc1 := 297) rfl (i := 0) rfl dL_isStep_296 rfl ?_
    refine J_iconst (pc1 := 298) dL_isStep_297 rfl ?_
    refine J_iload (pc1 := 300) rfl dL_isStep_298 rfl ?_
    refine J_isubE (pc1 := 301) (z := 0) (by decide) dL_isStep_300 rfl ?_
    refine J_bipush (pc1 := 303) (by decide) dL_isStep_301 rfl ?_
    refine J_mA (pc1 := 306) gv_L_37 yv_X9_player h3 (m_pl (p := 0) (w := 6) (z := tmF g.1 0) (Or.inl rfl) (by decide) rfl) dL_isStep_303 rfl rfl rfl (by omega) (by decide) (by omega) (by omega) (Nat.le_of_ble_eq_true rfl) (fun S4 h4 => ?_)
    refine J_istore (pc1 := 308) (L1 := [some (.ref (A 0)), some (.ref (B 0)), some (.int x), some (.int y), some (.int (x >>> (iI 4 &&& 31))), some (.int (iI 1)), some (.int (iI (tmF g.1 1))), some (.int (iI (tmF g.1 0))), none]) dL_isStep_306 rfl (by decide) rfl rfl ?_
    refine J_aload_n (pc1 := 309) rfl (i := 0) rfl dL_isStep_308 rfl ?_
    refine J_mA (pc1 := 312) gv_L_40 yv_X9_play h4 (m_play hw) dL_isStep_309 rfl rfl rfl (by omega) (by decide) (by omega) (by omega) (Nat.le_of_ble_eq_true rfl) (fun S5 h5 => ?_)
    refine J_istore (pc1 := 314) (L1 := [some (.ref (A 0)), some (.ref (B 0)), some (.int x), some (.int y), some (.int (x >>> (iI 4 &&& 31))), some (.int (iI 1)), some (.int (iI (tmF g.1 1))), some (.int (iI (tmF g.1 0))), some (.int (iI (tkF g.1 (fbF g.1) (faF g.1 (fbF g.1)))))]) dL_isStep_312 rfl (by decide) rfl rfl ?_
    refine J_iload (pc1 := 316) rfl dL_isStep_314 rfl ?_
    refine J_aload_n (pc1 := 317) rfl (i := 1) rfl dL_isStep_316 rfl ?_
    refine J_mB (pc1 := 320) gv_L_40 yv_X9_play h5 (m_play hw) dL_isStep_317 rfl rfl rfl (by omega) (by decide) (by omega) (by omega) (Nat.le_of_ble_eq_true rfl) (fun S6 h6 => ?_)
    refine J_neS (pc1 := 323) (tgt := 393) dL_isStep_320 rfl rfl (rfl) ?_
    refine J_iload (pc1 := 325) rfl dL_isStep_323 rfl ?_
    refine J_if_lt (pc1 := 328) (tgt := 354) (by omega) (by omega) dL_isStep_325 rfl rfl (fun hc2 => ?_) (fun hc2 => ?_)
    · refine J_iload (pc1 := 356) rfl dL_isStep_354 rfl ?_
      refine J_if_lt (pc1 := 359) (tgt := 389) (by omega) (by omega) dL_isStep_356 rfl rfl (fun hc3 => ?_) (fun hc3 => ?_)
      · refine J_iconst (pc1 := 390) dL_isStep_389 rfl ?_
        refine J_goto (tgt := 394) dL_isStep_390 rfl ?_
        exact J_iret rfl rfl dL_isStep_394 (by omega) (by omega) (kIS_mk rfl ⟨_, _, _, _, _, h6⟩)
      · refine J_aload_n (pc1 := 360) rfl (i := 0) rfl dL_isStep_359 rfl ?_
        refine J_iconst (pc1 := 361) dL_isStep_360 rfl ?_
        refine J_iload (pc1 := 363) rfl dL_isStep_361 rfl ?_
        refine J_isubE (pc1 := 364) (z := 0) (by decide) dL_isStep_363 rfl ?_
        refine J_bipush (pc1 := 366) (by decide) dL_isStep_364 rfl ?_
        refine J_mA (pc1 := 369) gv_L_37 yv_X9_player h6 (m_pl (p := 0) (w := 6) (z := tmF (plF g.1 (fbF g.1) (faF g.1 (fbF g.1))) 0) (Or.inl rfl) (by decide) rfl) dL_isStep_366 rfl rfl rfl (by omega) (by decide) (by omega) (by omega) (Nat.le_of_ble_eq_true rfl) (fun S7 h7 => ?_)
        refine J_if_lt (pc1 := 372) (tgt := 393) (by omega) (by omega) dL_isStep_369 rfl rfl (fun hc4 => ?_) (fun hc4 => ?_)
        · exact absurd hc4 (by omega)
        · refine J_aload_n (pc1 := 373) rfl (i := 0) rfl dL_isStep_372 rfl ?_
          refine J_iconst (pc1 := 374) dL_isStep_373 rfl ?_
          refine J_iload (pc1 := 376) rfl dL_isStep_374 rfl ?_
          refine J_isubE (pc1 := 377) (z := 0) (by decide) dL_isStep_376 rfl ?_
          refine J_bipush (pc1 := 379) (by decide) dL_isStep_377 rfl ?_
          refine J_mA (pc1 := 382) gv_L_37 yv_X9_player h7 (m_pl (p := 0) (w := 6) (z := tmF (plF g.1 (fbF g.1) (faF g.1 (fbF g.1))) 0) (Or.inl rfl) (by decide) rfl) dL_isStep_379 rfl rfl rfl (by omega) (by decide) (by omega) (by omega) (Nat.le_of_ble_eq_true rfl) (fun S8 h8 => ?_)
          refine J_iload (pc1 := 384) rfl dL_isStep_382 rfl ?_
          refine J_iconst (pc1 := 385) dL_isStep_384 rfl ?_
          refine J_isub (pc1 := 386) dL_isStep_385 rfl ?_
          refine J_icmp_gt (pc1 := 389) (tgt := 393) (by omega) (by omega) (by omega) (by omega) dL_isStep_386 rfl rfl (fun hc5 => ?_) (fun hc5 => ?_)
          · exact absurd hc5 (by omega)
          · refine J_iconst (pc1 := 390) dL_isStep_389 rfl ?_
            refine J_goto (tgt := 394) dL_isStep_390 rfl ?_
            exact J_iret rfl rfl dL_isStep_394 (by omega) (by omega) (kIS_mk rfl ⟨_, _, _, _, _, h8⟩)
    · refine J_aload_n (pc1 := 329) rfl (i := 0) rfl dL_isStep_328 rfl ?_
      refine J_iload (pc1 := 331) rfl dL_isStep_329 rfl ?_
      refine J_bipush (pc1 := 333) (by decide) dL_isStep_331 rfl ?_
      refine J_mA (pc1 := 336) gv_L_37 yv_X9_player h6 (m_pl (p := 1) (w := 6) (z := tmF (plF g.1 (fbF g.1) (faF g.1 (fbF g.1))) 1) (Or.inr rfl) (by decide) rfl) dL_isStep_333 rfl rfl rfl (by omega) (by decide) (by omega) (by omega) (Nat.le_of_ble_eq_true rfl) (fun S9 h9 => ?_)
      refine J_if_lt (pc1 := 339) (tgt := 393) (by omega) (by omega) dL_isStep_336 rfl rfl (fun hc6 => ?_) (fun hc6 => ?_)
      · exact absurd hc6 (by omega)
      · refine J_aload_n (pc1 := 340) rfl (i := 0) rfl dL_isStep_339 rfl ?_
        refine J_iload (pc1 := 342) rfl dL_isStep_340 rfl ?_
        refine J_bipush (pc1 := 344) (by decide) dL_isStep_342 rfl ?_
        refine J_mA (pc1 := 347) gv_L_37 yv_X9_player h9 (m_pl (p := 1) (w := 6) (z := tmF (plF g.1 (fbF g.1) (faF g.1 (fbF g.1))) 1) (Or.inr rfl) (by decide) rfl) dL_isStep_344 rfl rfl rfl (by omega) (by decide) (by omega) (by omega) (Nat.le_of_ble_eq_true rfl) (fun S10 h10 => ?_)
        refine J_iload (pc1 := 349) rfl dL_isStep_347 rfl ?_
        refine J_iconst (pc1 := 350) dL_isStep_349 rfl ?_
        refine J_isub (pc1 := 351) dL_isStep_350 rfl ?_
        refine J_icmp_gt (pc1 := 354) (tgt := 393) (by omega) (by omega) (by omega) (by omega) dL_isStep_351 rfl rfl (fun hc7 => ?_) (fun hc7 => ?_)
        · exact absurd hc7 (by omega)
        · refine J_iload (pc1 := 356) rfl dL_isStep_354 rfl ?_
          refine J_if_lt (pc1 := 359) (tgt := 389) (by omega) (by omega) dL_isStep_356 rfl rfl (fun hc8 => ?_) (fun hc8 => ?_)
          · refine J_iconst (pc1 := 390) dL_isStep_389 rfl ?_
            refine J_goto (tgt := 394) dL_isStep_390 rfl ?_
            exact J_iret rfl rfl dL_isStep_394 (by omega) (by omega) (kIS_mk rfl ⟨_, _, _, _, _, h10⟩)
          · refine J_aload_n (pc1 := 360) rfl (i := 0) rfl dL_isStep_359 rfl ?_
            refine J_iconst (pc1 := 361) dL_isStep_360 rfl ?_
            refine J_iload (pc1 := 363) rfl dL_isStep_361 rfl ?_
            refine J_isubE (pc1 := 364) (z := 0) (by decide) dL_isStep_363 rfl ?_
            refine J_bipush (pc1 := 366) (by decide) dL_isStep_364 rfl ?_
            refine J_mA (pc1 := 369) gv_L_37 yv_X9_player h10 (m_pl (p := 0) (w := 6) (z := tmF (plF g.1 (fbF g.1) (faF g.1 (fbF g.1))) 0) (Or.inl rfl) (by decide) rfl) dL_isStep_366 rfl rfl rfl (by omega) (by decide) (by omega) (by omega) (Nat.le_of_ble_eq_true rfl) (fun S11 h11 => ?_)
            refine J_if_lt (pc1 := 372) (tgt := 393) (by omega) (by omega) dL_isStep_369 rfl rfl (fun hc9 => ?_) (fun hc9 => ?_)
            · exact absurd hc9 (by omega)
            · refine J_aload_n (pc1 := 373) rfl (i := 0) rfl dL_isStep_372 rfl ?_
              refine J_iconst (pc1 := 374) dL_isStep_373 rfl ?_
              refine J_iload (pc1 := 376) rfl dL_isStep_374 rfl ?_
              refine J_isubE (pc1 := 377) (z := 0) (by decide) dL_isStep_376 rfl ?_
              refine J_bipush (pc1 := 379) (by decide) dL_isStep_377 rfl ?_
              refine J_mA (pc1 := 382) gv_L_37 yv_X9_player h11 (m_pl (p := 0) (w := 6) (z := tmF (plF g.1 (fbF g.1) (faF g.1 (fbF g.1))) 0) (Or.inl rfl) (by decide) rfl) dL_isStep_379 rfl rfl rfl (by omega) (by decide) (by omega) (by omega) (Nat.le_of_ble_eq_true rfl) (fun S12 h12 => ?_)
              refine J_iload (pc1 := 384) rfl dL_isStep_382 rfl ?_
              refine J_iconst (pc1 := 385) dL_isStep_384 rfl ?_
              refine J_isub (pc1 := 386) dL_isStep_385 rfl ?_
              refine J_icmp_gt (pc1 := 389) (tgt := 393) (by omega) (by omega) (by omega) (by omega) dL_isStep_386 rfl rfl (fun hc10 => ?_) (fun hc10 => ?_)
              · exact absurd hc10 (by omega)
              · refine J_iconst (pc1 := 390) dL_isStep_389 rfl ?_
                refine J_goto (tgt := 394) dL_isStep_390 rfl ?_
                exact J_iret rfl rfl dL_isStep_394 (by omega) (by omega) (kIS_mk rfl ⟨_, _, _, _, _, h12⟩)
  · exact absurd hc1 (by decide)
set_option maxHeartbeats 2000000 in
set_option maxRecDepth 20000 in
theorem st_save0 (hX : P2 S A B g tx L g tx2 L2) (hy : upF y 2 = 0) (hz : upF (x >>> (iI 4 &&& 31)) 2 = 0) : Jd yL_isStep cL_isStep 9 (some .boolean) 10 80 24000 (kIS 1 (fun T => LI T A B)) 0 0 S 395 [some (.ref (A 0)), some (.ref (B 0)), some (.int x), some (.int y), some (.int (x >>> (iI 4 &&& 31))), none, none, none, none] [] := by
  refine J_iload_n (pc1 := 396) rfl (i := 3) rfl dL_isStep_395 rfl ?_
  refine J_iconst (pc1 := 397) dL_isStep_396 rfl ?_
  refine J_callSI (pc1 := 400) (As := [.int y, .int (iI 2)]) gs_L_17 yv_L_up ((c_L_upZ (x := y) (n := 2) (z := 0) ⟨by decide, by decide⟩ (hy))) dL_isStep_397 rfl rfl rfl (by omega) (by decide) (by omega) (by omega) (Nat.le_of_ble_eq_true rfl) ?_
  refine J_if_ne (pc1 := 403) (tgt := 434) (by decide) (by decide) dL_isStep_400 rfl rfl (fun hc1 => ?_) (fun hc1 => ?_)
  · exact absurd hc1 (by decide)
  · refine J_aload_n (pc1 := 404) rfl (i := 0) rfl dL_isStep_403 rfl ?_
    refine J_iload (pc1 := 406) rfl dL_isStep_404 rfl ?_
    refine J_iconst (pc1 := 407) dL_isStep_406 rfl ?_
    refine J_callSI (pc1 := 410) (As := [.int (x >>> (iI 4 &&& 31)), .int (iI 2)]) gs_L_17 yv_L_up ((c_L_upZ (x := (x >>> (iI 4 &&& 31))) (n := 2) (z := 0) ⟨by decide, by decide⟩ (hz))) dL_isStep_407 rfl rfl rfl (by omega) (by decide) (by omega) (by omega) (Nat.le_of_ble_eq_true rfl) ?_
    refine J_mA (pc1 := 413) gv_L_44 yv_X9_save hX (m_save0) dL_isStep_410 rfl rfl rfl (by omega) (by decide) (by omega) (by omega) (Nat.le_of_ble_eq_true rfl) (fun S1 h1 => ?_)
    refine J_aload_n (pc1 := 414) rfl (i := 1) rfl dL_isStep_413 rfl ?_
    refine J_iload (pc1 := 416) rfl dL_isStep_414 rfl ?_
    refine J_iconst (pc1 := 417) dL_isStep_416 rfl ?_
    refine J_callSI (pc1 := 420) (As := [.int (x >>> (iI 4 &&& 31)), .int (iI 2)]) gs_L_17 yv_L_up ((c_L_upZ (x := (x >>> (iI 4 &&& 31))) (n := 2) (z := 0) ⟨by decide, by decide⟩ (hz))) dL_isStep_417 rfl rfl rfl (by omega) (by decide) (by omega) (by omega) (Nat.le_of_ble_eq_true rfl) ?_
    refine J_mB (pc1 := 423) gv_L_44 yv_X9_save h1 (m_save0) dL_isStep_420 rfl rfl rfl (by omega) (by decide) (by omega) (by omega) (Nat.le_of_ble_eq_true rfl) (fun S2 h2 => ?_)
    refine J_neS (pc1 := 426) (tgt := 430) dL_isStep_423 rfl rfl (rfl) ?_
    refine J_iconst (pc1 := 427) dL_isStep_426 rfl ?_
    refine J_goto (tgt := 462) dL_isStep_427 rfl ?_
    exact J_iret rfl rfl dL_isStep_462 (by omega) (by omega) (kIS_mk rfl ⟨_, _, _, _, _, h2⟩)
set_option maxHeartbeats 2000000 in
set_option maxRecDepth 20000 in
theorem st_restore0 (hX : P2 S A B g tx L g tx2 L2) (hy : upF y 2 = 1) (hz : upF (x >>> (iI 4 &&& 31)) 2 = 0) (hb : g.2.2.2.1 = 1) : Jd yL_isStep cL_isStep 9 (some .boolean) 10 80 24000 (kIS 1 (fun T => LI T A B)) 0 0 S 395 [some (.ref (A 0)), some (.ref (B 0)), some (.int x), some (.int y), some (.int (x >>> (iI 4 &&& 31))), none, none, none, none] [] := by
  refine J_iload_n (pc1 := 396) rfl (i := 3) rfl dL_isStep_395 rfl ?_
  refine J_iconst (pc1 := 397) dL_isStep_396 rfl ?_
  refine J_callSI (pc1 := 400) (As := [.int y, .int (iI 2)]) gs_L_17 yv_L_up ((c_L_upZ (x := y) (n := 2) (z := 1) ⟨by decide, by decide⟩ (hy))) dL_isStep_397 rfl rfl rfl (by omega) (by decide) (by omega) (by omega) (Nat.le_of_ble_eq_true rfl) ?_
  refine J_if_ne (pc1 := 403) (tgt := 434) (by decide) (by decide) dL_isStep_400 rfl rfl (fun hc1 => ?_) (fun hc1 => ?_)
  · refine J_aload_n (pc1 := 435) rfl (i := 0) rfl dL_isStep_434 rfl ?_
    refine J_iload (pc1 := 437) rfl dL_isStep_435 rfl ?_
    refine J_iconst (pc1 := 438) dL_isStep_437 rfl ?_
    refine J_callSI (pc1 := 441) (As := [.int (x >>> (iI 4 &&& 31)), .int (iI 2)]) gs_L_17 yv_L_up ((c_L_upZ (x := (x >>> (iI 4 &&& 31))) (n := 2) (z := 0) ⟨by decide, by decide⟩ (hz))) dL_isStep_438 rfl rfl rfl (by omega) (by decide) (by omega) (by omega) (Nat.le_of_ble_eq_true rfl) ?_
    refine J_mA (pc1 := 444) gv_L_47 yv_X9_restore hX (m_restore0 hb) dL_isStep_441 rfl rfl rfl (by omega) (by decide) (by omega) (by omega) (Nat.le_of_ble_eq_true rfl) (fun S1 h1 => ?_)
    refine J_aload_n (pc1 := 445) rfl (i := 1) rfl dL_isStep_444 rfl ?_
    refine J_iload (pc1 := 447) rfl dL_isStep_445 rfl ?_
    refine J_iconst (pc1 := 448) dL_isStep_447 rfl ?_
    refine J_callSI (pc1 := 451) (As := [.int (x >>> (iI 4 &&& 31)), .int (iI 2)]) gs_L_17 yv_L_up ((c_L_upZ (x := (x >>> (iI 4 &&& 31))) (n := 2) (z := 0) ⟨by decide, by decide⟩ (hz))) dL_isStep_448 rfl rfl rfl (by omega) (by decide) (by omega) (by omega) (Nat.le_of_ble_eq_true rfl) ?_
    refine J_mB (pc1 := 454) gv_L_47 yv_X9_restore h1 (m_restore0 hb) dL_isStep_451 rfl rfl rfl (by omega) (by decide) (by omega) (by omega) (Nat.le_of_ble_eq_true rfl) (fun S2 h2 => ?_)
    refine J_neS (pc1 := 457) (tgt := 461) dL_isStep_454 rfl rfl (rfl) ?_
    refine J_iconst (pc1 := 458) dL_isStep_457 rfl ?_
    refine J_goto (tgt := 462) dL_isStep_458 rfl ?_
    exact J_iret rfl rfl dL_isStep_462 (by omega) (by omega) (kIS_mk rfl ⟨_, _, _, _, _, h2⟩)
  · exact absurd hc1 (by decide)
set_option maxHeartbeats 2000000 in
set_option maxRecDepth 20000 in
theorem st_restore0X (hX : P2 S A B g tx L g tx2 L2) (hy : upF y 2 = 1) (hz : upF (x >>> (iI 4 &&& 31)) 2 = 0) (hb : ¬ g.2.2.2.1 = 1) : Jd yL_isStep cL_isStep 9 (some .boolean) 10 80 24000 (kIS 1 (fun T => LI T A B)) 0 0 S 395 [some (.ref (A 0)), some (.ref (B 0)), some (.int x), some (.int y), some (.int (x >>> (iI 4 &&& 31))), none, none, none, none] [] := by
  refine J_iload_n (pc1 := 396) rfl (i := 3) rfl dL_isStep_395 rfl ?_
  refine J_iconst (pc1 := 397) dL_isStep_396 rfl ?_
  refine J_callSI (pc1 := 400) (As := [.int y, .int (iI 2)]) gs_L_17 yv_L_up ((c_L_upZ (x := y) (n := 2) (z := 1) ⟨by decide, by decide⟩ (hy))) dL_isStep_397 rfl rfl rfl (by omega) (by decide) (by omega) (by omega) (Nat.le_of_ble_eq_true rfl) ?_
  refine J_if_ne (pc1 := 403) (tgt := 434) (by decide) (by decide) dL_isStep_400 rfl rfl (fun hc1 => ?_) (fun hc1 => ?_)
  · refine J_aload_n (pc1 := 435) rfl (i := 0) rfl dL_isStep_434 rfl ?_
    refine J_iload (pc1 := 437) rfl dL_isStep_435 rfl ?_
    refine J_iconst (pc1 := 438) dL_isStep_437 rfl ?_
    refine J_callSI (pc1 := 441) (As := [.int (x >>> (iI 4 &&& 31)), .int (iI 2)]) gs_L_17 yv_L_up ((c_L_upZ (x := (x >>> (iI 4 &&& 31))) (n := 2) (z := 0) ⟨by decide, by decide⟩ (hz))) dL_isStep_438 rfl rfl rfl (by omega) (by decide) (by omega) (by omega) (Nat.le_of_ble_eq_true rfl) ?_
    refine J_mA (pc1 := 444) gv_L_47 yv_X9_restore hX (m_restore0X hb) dL_isStep_441 rfl rfl rfl (by omega) (by decide) (by omega) (by omega) (Nat.le_of_ble_eq_true rfl) (fun S1 h1 => ?_)
    refine J_aload_n (pc1 := 445) rfl (i := 1) rfl dL_isStep_444 rfl ?_
    refine J_iload (pc1 := 447) rfl dL_isStep_445 rfl ?_
    refine J_iconst (pc1 := 448) dL_isStep_447 rfl ?_
    refine J_callSI (pc1 := 451) (As := [.int (x >>> (iI 4 &&& 31)), .int (iI 2)]) gs_L_17 yv_L_up ((c_L_upZ (x := (x >>> (iI 4 &&& 31))) (n := 2) (z := 0) ⟨by decide, by decide⟩ (hz))) dL_isStep_448 rfl rfl rfl (by omega) (by decide) (by omega) (by omega) (Nat.le_of_ble_eq_true rfl) ?_
    refine J_mB (pc1 := 454) gv_L_47 yv_X9_restore h1 (m_restore0X hb) dL_isStep_451 rfl rfl rfl (by omega) (by decide) (by omega) (by omega) (Nat.le_of_ble_eq_true rfl) (fun S2 h2 => ?_)
    refine J_icmp_ne (pc1 := 457) (tgt := 461) (by decide) (by decide) (by decide) (by decide) dL_isStep_454 rfl rfl (fun hc2 => ?_) (fun hc2 => ?_)
    · exact absurd hc2 (by decide)
    · refine J_iconst (pc1 := 458) dL_isStep_457 rfl ?_
      refine J_goto (tgt := 462) dL_isStep_458 rfl ?_
      exact J_iret rfl rfl dL_isStep_462 (by omega) (by omega) (kIS_mk rfl ⟨_, _, _, _, _, h2⟩)
  · exact absurd hc1 (by decide)
set_option maxHeartbeats 2000000 in
set_option maxRecDepth 20000 in
theorem st_save1 (hX : P2 S A B g tx L g tx2 L2) (hy : upF y 2 = 0) (hz : upF (x >>> (iI 4 &&& 31)) 2 = 1) : Jd yL_isStep cL_isStep 9 (some .boolean) 10 80 24000 (kIS 1 (fun T => LI T A B)) 0 0 S 395 [some (.ref (A 0)), some (.ref (B 0)), some (.int x), some (.int y), some (.int (x >>> (iI 4 &&& 31))), none, none, none, none] [] := by
  refine J_iload_n (pc1 := 396) rfl (i := 3) rfl dL_isStep_395 rfl ?_
  refine J_iconst (pc1 := 397) dL_isStep_396 rfl ?_
  refine J_callSI (pc1 := 400) (As := [.int y, .int (iI 2)]) gs_L_17 yv_L_up ((c_L_upZ (x := y) (n := 2) (z := 0) ⟨by decide, by decide⟩ (hy))) dL_isStep_397 rfl rfl rfl (by omega) (by decide) (by omega) (by omega) (Nat.le_of_ble_eq_true rfl) ?_
  refine J_if_ne (pc1 := 403) (tgt := 434) (by decide) (by decide) dL_isStep_400 rfl rfl (fun hc1 => ?_) (fun hc1 => ?_)
  · exact absurd hc1 (by decide)
  · refine J_aload_n (pc1 := 404) rfl (i := 0) rfl dL_isStep_403 rfl ?_
    refine J_iload (pc1 := 406) rfl dL_isStep_404 rfl ?_
    refine J_iconst (pc1 := 407) dL_isStep_406 rfl ?_
    refine J_callSI (pc1 := 410) (As := [.int (x >>> (iI 4 &&& 31)), .int (iI 2)]) gs_L_17 yv_L_up ((c_L_upZ (x := (x >>> (iI 4 &&& 31))) (n := 2) (z := 1) ⟨by decide, by decide⟩ (hz))) dL_isStep_407 rfl rfl rfl (by omega) (by decide) (by omega) (by omega) (Nat.le_of_ble_eq_true rfl) ?_
    refine J_mA (pc1 := 413) gv_L_44 yv_X9_save hX (m_save1) dL_isStep_410 rfl rfl rfl (by omega) (by decide) (by omega) (by omega) (Nat.le_of_ble_eq_true rfl) (fun S1 h1 => ?_)
    refine J_aload_n (pc1 := 414) rfl (i := 1) rfl dL_isStep_413 rfl ?_
    refine J_iload (pc1 := 416) rfl dL_isStep_414 rfl ?_
    refine J_iconst (pc1 := 417) dL_isStep_416 rfl ?_
    refine J_callSI (pc1 := 420) (As := [.int (x >>> (iI 4 &&& 31)), .int (iI 2)]) gs_L_17 yv_L_up ((c_L_upZ (x := (x >>> (iI 4 &&& 31))) (n := 2) (z := 1) ⟨by decide, by decide⟩ (hz))) dL_isStep_417 rfl rfl rfl (by omega) (by decide) (by omega) (by omega) (Nat.le_of_ble_eq_true rfl) ?_
    refine J_mB (pc1 := 423) gv_L_44 yv_X9_save h1 (m_save1) dL_isStep_420 rfl rfl rfl (by omega) (by decide) (by omega) (by omega) (Nat.le_of_ble_eq_true rfl) (fun S2 h2 => ?_)
    refine J_neS (pc1 := 426) (tgt := 430) dL_isStep_423 rfl rfl (rfl) ?_
    refine J_iconst (pc1 := 427) dL_isStep_426 rfl ?_
    refine J_goto (tgt := 462) dL_isStep_427 rfl ?_
    exact J_iret rfl rfl dL_isStep_462 (by omega) (by omega) (kIS_mk rfl ⟨_, _, _, _, _, h2⟩)
set_option maxHeartbeats 2000000 in
set_option maxRecDepth 20000 in
theorem st_restore1 (hX : P2 S A B g tx L g tx2 L2) (hy : upF y 2 = 1) (hz : upF (x >>> (iI 4 &&& 31)) 2 = 1) (hb : g.2.2.2.2.1 = 1) : Jd yL_isStep cL_isStep 9 (some .boolean) 10 80 24000 (kIS 1 (fun T => LI T A B)) 0 0 S 395 [some (.ref (A 0)), some (.ref (B 0)), some (.int x), some (.int y), some (.int (x >>> (iI 4 &&& 31))), none, none, none, none] [] := by
  refine J_iload_n (pc1 := 396) rfl (i := 3) rfl dL_isStep_395 rfl ?_
  refine J_iconst (pc1 := 397) dL_isStep_396 rfl ?_
  refine J_callSI (pc1 := 400) (As := [.int y, .int (iI 2)]) gs_L_17 yv_L_up ((c_L_upZ (x := y) (n := 2) (z := 1) ⟨by decide, by decide⟩ (hy))) dL_isStep_397 rfl rfl rfl (by omega) (by decide) (by omega) (by omega) (Nat.le_of_ble_eq_true rfl) ?_
  refine J_if_ne (pc1 := 403) (tgt := 434) (by decide) (by decide) dL_isStep_400 rfl rfl (fun hc1 => ?_) (fun hc1 => ?_)
  · refine J_aload_n (pc1 := 435) rfl (i := 0) rfl dL_isStep_434 rfl ?_
    refine J_iload (pc1 := 437) rfl dL_isStep_435 rfl ?_
    refine J_iconst (pc1 := 438) dL_isStep_437 rfl ?_
    refine J_callSI (pc1 := 441) (As := [.int (x >>> (iI 4 &&& 31)), .int (iI 2)]) gs_L_17 yv_L_up ((c_L_upZ (x := (x >>> (iI 4 &&& 31))) (n := 2) (z := 1) ⟨by decide, by decide⟩ (hz))) dL_isStep_438 rfl rfl rfl (by omega) (by decide) (by omega) (by omega) (Nat.le_of_ble_eq_true rfl) ?_
    refine J_mA (pc1 := 444) gv_L_47 yv_X9_restore hX (m_restore1 hb) dL_isStep_441 rfl rfl rfl (by omega) (by decide) (by omega) (by omega) (Nat.le_of_ble_eq_true rfl) (fun S1 h1 => ?_)
    refine J_aload_n (pc1 := 445) rfl (i := 1) rfl dL_isStep_444 rfl ?_
    refine J_iload (pc1 := 447) rfl dL_isStep_445 rfl ?_
    refine J_iconst (pc1 := 448) dL_isStep_447 rfl ?_
    refine J_callSI (pc1 := 451) (As := [.int (x >>> (iI 4 &&& 31)), .int (iI 2)]) gs_L_17 yv_L_up ((c_L_upZ (x := (x >>> (iI 4 &&& 31))) (n := 2) (z := 1) ⟨by decide, by decide⟩ (hz))) dL_isStep_448 rfl rfl rfl (by omega) (by decide) (by omega) (by omega) (Nat.le_of_ble_eq_true rfl) ?_
    refine J_mB (pc1 := 454) gv_L_47 yv_X9_restore h1 (m_restore1 hb) dL_isStep_451 rfl rfl rfl (by omega) (by decide) (by omega) (by omega) (Nat.le_of_ble_eq_true rfl) (fun S2 h2 => ?_)
    refine J_neS (pc1 := 457) (tgt := 461) dL_isStep_454 rfl rfl (rfl) ?_
    refine J_iconst (pc1 := 458) dL_isStep_457 rfl ?_
    refine J_goto (tgt := 462) dL_isStep_458 rfl ?_
    exact J_iret rfl rfl dL_isStep_462 (by omega) (by omega) (kIS_mk rfl ⟨_, _, _, _, _, h2⟩)
  · exact absurd hc1 (by decide)
set_option maxHeartbeats 2000000 in
set_option maxRecDepth 20000 in
theorem st_restore1X (hX : P2 S A B g tx L g tx2 L2) (hy : upF y 2 = 1) (hz : upF (x >>> (iI 4 &&& 31)) 2 = 1) (hb : ¬ g.2.2.2.2.1 = 1) : Jd yL_isStep cL_isStep 9 (some .boolean) 10 80 24000 (kIS 1 (fun T => LI T A B)) 0 0 S 395 [some (.ref (A 0)), some (.ref (B 0)), some (.int x), some (.int y), some (.int (x >>> (iI 4 &&& 31))), none, none, none, none] [] := by
  refine J_iload_n (pc1 := 396) rfl (i := 3) rfl dL_isStep_395 rfl ?_
  refine J_iconst (pc1 := 397) dL_isStep_396 rfl ?_
  refine J_callSI (pc1 := 400) (As := [.int y, .int (iI 2)]) gs_L_17 yv_L_up ((c_L_upZ (x := y) (n := 2) (z := 1) ⟨by decide, by decide⟩ (hy))) dL_isStep_397 rfl rfl rfl (by omega) (by decide) (by omega) (by omega) (Nat.le_of_ble_eq_true rfl) ?_
  refine J_if_ne (pc1 := 403) (tgt := 434) (by decide) (by decide) dL_isStep_400 rfl rfl (fun hc1 => ?_) (fun hc1 => ?_)
  · refine J_aload_n (pc1 := 435) rfl (i := 0) rfl dL_isStep_434 rfl ?_
    refine J_iload (pc1 := 437) rfl dL_isStep_435 rfl ?_
    refine J_iconst (pc1 := 438) dL_isStep_437 rfl ?_
    refine J_callSI (pc1 := 441) (As := [.int (x >>> (iI 4 &&& 31)), .int (iI 2)]) gs_L_17 yv_L_up ((c_L_upZ (x := (x >>> (iI 4 &&& 31))) (n := 2) (z := 1) ⟨by decide, by decide⟩ (hz))) dL_isStep_438 rfl rfl rfl (by omega) (by decide) (by omega) (by omega) (Nat.le_of_ble_eq_true rfl) ?_
    refine J_mA (pc1 := 444) gv_L_47 yv_X9_restore hX (m_restore1X hb) dL_isStep_441 rfl rfl rfl (by omega) (by decide) (by omega) (by omega) (Nat.le_of_ble_eq_true rfl) (fun S1 h1 => ?_)
    refine J_aload_n (pc1 := 445) rfl (i := 1) rfl dL_isStep_444 rfl ?_
    refine J_iload (pc1 := 447) rfl dL_isStep_445 rfl ?_
    refine J_iconst (pc1 := 448) dL_isStep_447 rfl ?_
    refine J_callSI (pc1 := 451) (As := [.int (x >>> (iI 4 &&& 31)), .int (iI 2)]) gs_L_17 yv_L_up ((c_L_upZ (x := (x >>> (iI 4 &&& 31))) (n := 2) (z := 1) ⟨by decide, by decide⟩ (hz))) dL_isStep_448 rfl rfl rfl (by omega) (by decide) (by omega) (by omega) (Nat.le_of_ble_eq_true rfl) ?_
    refine J_mB (pc1 := 454) gv_L_47 yv_X9_restore h1 (m_restore1X hb) dL_isStep_451 rfl rfl rfl (by omega) (by decide) (by omega) (by omega) (Nat.le_of_ble_eq_true rfl) (fun S2 h2 => ?_)
    refine J_icmp_ne (pc1 := 457) (tgt := 461) (by decide) (by decide) (by decide) (by decide) dL_isStep_454 rfl rfl (fun hc2 => ?_) (fun hc2 => ?_)
    · exact absurd hc2 (by decide)
    · refine J_iconst (pc1 := 458) dL_isStep_457 rfl ?_
      refine J_goto (tgt := 462) dL_isStep_458 rfl ?_
      exact J_iret rfl rfl dL_isStep_462 (by omega) (by omega) (kIS_mk rfl ⟨_, _, _, _, _, h2⟩)
  · exact absurd hc1 (by decide)
set_option maxHeartbeats 2000000 in
set_option maxRecDepth 20000 in
theorem st_undo (hX : P2 S A B g tx L g tx2 L2) (hn : 0 < g.2.2.2.2.2.1) : Jd yL_isStep cL_isStep 9 (some .boolean) 10 80 24000 (kIS 1 (fun T => LI T A B)) 0 0 S 463 [some (.ref (A 0)), some (.ref (B 0)), some (.int x), some (.int y), some (.int (x >>> (iI 4 &&& 31))), none, none, none, none] [] := by
  have h6 := hX.oa.1.2.2.2.2.2.1
  refine J_aload_n (pc1 := 464) rfl (i := 0) rfl dL_isStep_463 rfl ?_
  refine J_bipush (pc1 := 466) (by decide) dL_isStep_464 rfl ?_
  refine J_mA (pc1 := 469) gv_L_23 yv_X9_count hX (m_cn (w := 11) (z := (g.2.2.2.2.2.1 : Int)) (by decide) rfl) dL_isStep_466 rfl rfl rfl (by omega) (by decide) (by omega) (by omega) (Nat.le_of_ble_eq_true rfl) (fun S1 h1 => ?_)
  refine J_if_eq (pc1 := 472) (tgt := 483) (by omega) (by omega) dL_isStep_469 rfl rfl (fun hc1 => ?_) (fun hc1 => ?_)
  · exact absurd hc1 (by omega)
  · refine J_aload_n (pc1 := 473) rfl (i := 0) rfl dL_isStep_472 rfl ?_
    refine J_mA (pc1 := 476) gv_L_50 yv_X9_undo h1 (m_undo hn) dL_isStep_473 rfl rfl rfl (by omega) (by decide) (by omega) (by omega) (Nat.le_of_ble_eq_true rfl) (fun S2 h2 => ?_)
    refine J_aload_n (pc1 := 477) rfl (i := 1) rfl dL_isStep_476 rfl ?_
    refine J_mB (pc1 := 480) gv_L_50 yv_X9_undo h2 (m_undo hn) dL_isStep_477 rfl rfl rfl (by omega) (by decide) (by omega) (by omega) (Nat.le_of_ble_eq_true rfl) (fun S3 h3 => ?_)
    refine J_neS (pc1 := 483) (tgt := 487) dL_isStep_480 rfl rfl (rfl) ?_
    refine J_iconst (pc1 := 484) dL_isStep_483 rfl ?_
    refine J_goto (tgt := 488) dL_isStep_484 rfl ?_
    exact J_iret rfl rfl dL_isStep_488 (by omega) (by omega) (kIS_mk rfl ⟨_, _, _, _, _, h3⟩)
set_option maxHeartbeats 2000000 in
set_option maxRecDepth 20000 in
theorem st_undoX (hX : P2 S A B g tx L g tx2 L2) (hn : g.2.2.2.2.2.1 = 0) : Jd yL_isStep cL_isStep 9 (some .boolean) 10 80 24000 (kIS 1 (fun T => LI T A B)) 0 0 S 463 [some (.ref (A 0)), some (.ref (B 0)), some (.int x), some (.int y), some (.int (x >>> (iI 4 &&& 31))), none, none, none, none] [] := by
  have h6 := hX.oa.1.2.2.2.2.2.1
  refine J_aload_n (pc1 := 464) rfl (i := 0) rfl dL_isStep_463 rfl ?_
  refine J_bipush (pc1 := 466) (by decide) dL_isStep_464 rfl ?_
  refine J_mA (pc1 := 469) gv_L_23 yv_X9_count hX (m_cn (w := 11) (z := 0) (by decide) (by rw [cz11, hn]; rfl)) dL_isStep_466 rfl rfl rfl (by omega) (by decide) (by omega) (by omega) (Nat.le_of_ble_eq_true rfl) (fun S1 h1 => ?_)
  refine J_if_eq (pc1 := 472) (tgt := 483) (by decide) (by decide) dL_isStep_469 rfl rfl (fun hc1 => ?_) (fun hc1 => ?_)
  · refine J_iconst (pc1 := 484) dL_isStep_483 rfl ?_
    refine J_goto (tgt := 488) dL_isStep_484 rfl ?_
    exact J_iret rfl rfl dL_isStep_488 (by omega) (by omega) (kIS_mk rfl ⟨_, _, _, _, _, h1⟩)
  · exact absurd hc1 (by decide)
set_option maxHeartbeats 2000000 in
set_option maxRecDepth 20000 in
theorem st_ask (hX : P2 S A B g tx L g tx2 L2)  : Jd yL_isStep cL_isStep 9 (some .boolean) 10 80 24000 (kIS 1 (fun T => LI T A B)) 0 0 S 489 [some (.ref (A 0)), some (.ref (B 0)), some (.int x), some (.int y), some (.int (x >>> (iI 4 &&& 31))), none, none, none, none] [] := by
  have u1 := upF_b (x >>> (iI 4 &&& 31)) (n := 2) (by decide)
  refine J_aload_n (pc1 := 490) rfl (i := 0) rfl dL_isStep_489 rfl ?_
  refine J_iconst (pc1 := 491) dL_isStep_490 rfl ?_
  refine J_bipush (pc1 := 493) (by decide) dL_isStep_491 rfl ?_
  refine J_mA (pc1 := 496) gv_L_37 yv_X9_player hX (m_pl (p := 0) (w := 6) (z := tmF g.1 0) (Or.inl rfl) (by decide) rfl) dL_isStep_493 rfl rfl rfl (by omega) (by decide) (by omega) (by omega) (Nat.le_of_ble_eq_true rfl) (fun S1 h1 => ?_)
  refine J_aload_n (pc1 := 497) rfl (i := 1) rfl dL_isStep_496 rfl ?_
  refine J_iconst (pc1 := 498) dL_isStep_497 rfl ?_
  refine J_bipush (pc1 := 500) (by decide) dL_isStep_498 rfl ?_
  refine J_mB (pc1 := 503) gv_L_37 yv_X9_player h1 (m_pl (p := 0) (w := 6) (z := tmF g.1 0) (Or.inl rfl) (by decide) rfl) dL_isStep_500 rfl rfl rfl (by omega) (by decide) (by omega) (by omega) (Nat.le_of_ble_eq_true rfl) (fun S2 h2 => ?_)
  refine J_neS (pc1 := 506) (tgt := 550) dL_isStep_503 rfl rfl (rfl) ?_
  refine J_aload_n (pc1 := 507) rfl (i := 0) rfl dL_isStep_506 rfl ?_
  refine J_iload (pc1 := 509) rfl dL_isStep_507 rfl ?_
  refine J_iconst (pc1 := 510) dL_isStep_509 rfl ?_
  refine J_callSI (pc1 := 513) (As := [.int (x >>> (iI 4 &&& 31)), .int (iI 2)]) gs_L_17 yv_L_up ((c_L_upZ (x := (x >>> (iI 4 &&& 31))) (n := 2) (z := upF (x >>> (iI 4 &&& 31)) 2) ⟨by decide, by decide⟩ (rfl))) dL_isStep_510 rfl rfl rfl (by omega) (by decide) (by omega) (by omega) (Nat.le_of_ble_eq_true rfl) ?_
  refine J_mA (pc1 := 516) gv_L_53 yv_X9_leastHours h2 (m_lh (p := upF (x >>> (iI 4 &&& 31)) 2) (z := lhA g.1 (upF (x >>> (iI 4 &&& 31)) 2)) (by omega) rfl) dL_isStep_513 rfl rfl rfl (by omega) (by decide) (by omega) (by omega) (Nat.le_of_ble_eq_true rfl) (fun S3 h3 => ?_)
  refine J_aload_n (pc1 := 517) rfl (i := 1) rfl dL_isStep_516 rfl ?_
  refine J_iload (pc1 := 519) rfl dL_isStep_517 rfl ?_
  refine J_iconst (pc1 := 520) dL_isStep_519 rfl ?_
  refine J_callSI (pc1 := 523) (As := [.int (x >>> (iI 4 &&& 31)), .int (iI 2)]) gs_L_17 yv_L_up ((c_L_upZ (x := (x >>> (iI 4 &&& 31))) (n := 2) (z := upF (x >>> (iI 4 &&& 31)) 2) ⟨by decide, by decide⟩ (rfl))) dL_isStep_520 rfl rfl rfl (by omega) (by decide) (by omega) (by omega) (Nat.le_of_ble_eq_true rfl) ?_
  refine J_mB (pc1 := 526) gv_L_53 yv_X9_leastHours h3 (m_lh (p := upF (x >>> (iI 4 &&& 31)) 2) (z := lhA g.1 (upF (x >>> (iI 4 &&& 31)) 2)) (by omega) rfl) dL_isStep_523 rfl rfl rfl (by omega) (by decide) (by omega) (by omega) (Nat.le_of_ble_eq_true rfl) (fun S4 h4 => ?_)
  refine J_neS (pc1 := 529) (tgt := 550) dL_isStep_526 rfl rfl (rfl) ?_
  refine J_aload_n (pc1 := 530) rfl (i := 0) rfl dL_isStep_529 rfl ?_
  refine J_iconst (pc1 := 531) dL_isStep_530 rfl ?_
  refine J_bipush (pc1 := 533) (by decide) dL_isStep_531 rfl ?_
  refine J_mA (pc1 := 536) gv_L_37 yv_X9_player h4 (m_pl (p := 1) (w := 6) (z := tmF g.1 1) (Or.inr rfl) (by decide) rfl) dL_isStep_533 rfl rfl rfl (by omega) (by decide) (by omega) (by omega) (Nat.le_of_ble_eq_true rfl) (fun S5 h5 => ?_)
  refine J_aload_n (pc1 := 537) rfl (i := 1) rfl dL_isStep_536 rfl ?_
  refine J_iconst (pc1 := 538) dL_isStep_537 rfl ?_
  refine J_bipush (pc1 := 540) (by decide) dL_isStep_538 rfl ?_
  refine J_mB (pc1 := 543) gv_L_37 yv_X9_player h5 (m_pl (p := 1) (w := 6) (z := tmF g.1 1) (Or.inr rfl) (by decide) rfl) dL_isStep_540 rfl rfl rfl (by omega) (by decide) (by omega) (by omega) (Nat.le_of_ble_eq_true rfl) (fun S6 h6 => ?_)
  refine J_neS (pc1 := 546) (tgt := 550) dL_isStep_543 rfl rfl (rfl) ?_
  refine J_iconst (pc1 := 547) dL_isStep_546 rfl ?_
  refine J_goto (tgt := 551) dL_isStep_547 rfl ?_
  exact J_iret rfl rfl dL_isStep_551 (by omega) (by omega) (kIS_mk rfl ⟨_, _, _, _, _, h6⟩)
set_option maxHeartbeats 2000000 in
set_option maxRecDepth 20000 in
theorem st_roundX0 (hX : P2 S A B g tx L g tx2 L2) {v u : Nat} (hv : upF y 7 = (v : Int)) (hu : upF (y >>> (iI 4 &&& 31)) 7 = (u : Int)) (hv6 : v ≤ 6) (hu6 : u ≤ 6) (hw : winF g.1 = 0) : Jd yL_isStep cL_isStep 9 (some .boolean) 10 80 24000 (kIS 1 (fun T => LI T A B)) 0 0 S 552 [some (.ref (A 0)), some (.ref (B 0)), some (.int x), some (.int y), some (.int (x >>> (iI 4 &&& 31))), none, none, none, none] [] := by
  refine J_iload_n (pc1 := 553) rfl (i := 3) rfl dL_isStep_552 rfl ?_
  refine J_bipush (pc1 := 555) (by decide) dL_isStep_553 rfl ?_
  refine J_callSI (pc1 := 558) (As := [.int y, .int (iI 7)]) gs_L_17 yv_L_up ((c_L_upZ (x := y) (n := 7) (z := (v : Int)) ⟨by decide, by decide⟩ (hv))) dL_isStep_555 rfl rfl rfl (by omega) (by decide) (by omega) (by omega) (Nat.le_of_ble_eq_true rfl) ?_
  refine J_istore (pc1 := 560) (L1 := [some (.ref (A 0)), some (.ref (B 0)), some (.int x), some (.int y), some (.int (x >>> (iI 4 &&& 31))), some (.int (iI (v : Int))), none, none, none]) dL_isStep_558 rfl (by decide) rfl rfl ?_
  refine J_iload_n (pc1 := 561) rfl (i := 3) rfl dL_isStep_560 rfl ?_
  refine J_iconst (pc1 := 562) dL_isStep_561 rfl ?_
  refine J_ishr (pc1 := 563) dL_isStep_562 rfl ?_
  refine J_bipush (pc1 := 565) (by decide) dL_isStep_563 rfl ?_
  refine J_callSI (pc1 := 568) (As := [.int (y >>> ((iI 4) &&& 31)), .int (iI 7)]) gs_L_17 yv_L_up ((c_L_upZ (x := (y >>> ((iI 4) &&& 31))) (n := 7) (z := (u : Int)) ⟨by decide, by decide⟩ (hu))) dL_isStep_565 rfl rfl rfl (by omega) (by decide) (by omega) (by omega) (Nat.le_of_ble_eq_true rfl) ?_
  refine J_istore (pc1 := 570) (L1 := [some (.ref (A 0)), some (.ref (B 0)), some (.int x), some (.int y), some (.int (x >>> (iI 4 &&& 31))), some (.int (iI (v : Int))), some (.int (iI (u : Int))), none, none]) dL_isStep_568 rfl (by decide) rfl rfl ?_
  refine J_aload_n (pc1 := 571) rfl (i := 0) rfl dL_isStep_570 rfl ?_
  refine J_iconst (pc1 := 572) dL_isStep_571 rfl ?_
  refine J_mA (pc1 := 575) gv_L_23 yv_X9_count hX (m_cn (w := 5) (z := (-1006)) (by decide) (cz5x (by rw [hw]; decide))) dL_isStep_572 rfl rfl rfl (by omega) (by decide) (by omega) (by omega) (Nat.le_of_ble_eq_true rfl) (fun S1 h1 => ?_)
  refine J_istore (pc1 := 577) (L1 := [some (.ref (A 0)), some (.ref (B 0)), some (.int x), some (.int y), some (.int (x >>> (iI 4 &&& 31))), some (.int (iI (v : Int))), some (.int (iI (u : Int))), some (.int (iI (-1006))), none]) dL_isStep_575 rfl (by decide) rfl rfl ?_
  refine J_iload (pc1 := 579) rfl dL_isStep_577 rfl ?_
  refine J_if_lt (pc1 := 582) (tgt := 612) (by decide) (by decide) dL_isStep_579 rfl rfl (fun hc1 => ?_) (fun hc1 => ?_)
  · refine J_iconst (pc1 := 613) dL_isStep_612 rfl ?_
    refine J_istore (pc1 := 615) (L1 := [some (.ref (A 0)), some (.ref (B 0)), some (.int x), some (.int y), some (.int (x >>> (iI 4 &&& 31))), some (.int (iI (v : Int))), some (.int (iI (u : Int))), some (.int (iI (-1006))), some (.int (iI 0))]) dL_isStep_613 rfl (by decide) rfl rfl ?_
    refine J_iload (pc1 := 617) rfl dL_isStep_615 rfl ?_
    refine J_if_ne (pc1 := 620) (tgt := 654) (by decide) (by decide) dL_isStep_617 rfl rfl (fun hc2 => ?_) (fun hc2 => ?_)
    · exact absurd hc2 (by decide)
    · refine J_aload_n (pc1 := 621) rfl (i := 0) rfl dL_isStep_620 rfl ?_
      refine J_iload (pc1 := 623) rfl dL_isStep_621 rfl ?_
      refine J_iload (pc1 := 625) rfl dL_isStep_623 rfl ?_
      refine J_mA (pc1 := 628) gv_L_56 yv_X9_round h1 (m_roundX (b := (v : Int)) (a := (u : Int)) (by omega) (by omega) (fun z => by rw [z.1] at hw; exact absurd hw (by decide))) dL_isStep_625 rfl rfl rfl (by omega) (by decide) (by omega) (by omega) (Nat.le_of_ble_eq_true rfl) (fun S2 h2 => ?_)
      refine J_sipush (pc1 := 631) (by decide) dL_isStep_628 rfl ?_
      refine J_icmp_ne (pc1 := 634) (tgt := 652) (by decide) (by decide) (by decide) (by decide) dL_isStep_631 rfl rfl (fun hc3 => ?_) (fun hc3 => ?_)
      · exact absurd hc3 (by decide)
      · refine J_aload_n (pc1 := 635) rfl (i := 1) rfl dL_isStep_634 rfl ?_
        refine J_iload (pc1 := 637) rfl dL_isStep_635 rfl ?_
        refine J_iload (pc1 := 639) rfl dL_isStep_637 rfl ?_
        refine J_mB (pc1 := 642) gv_L_56 yv_X9_round h2 (m_roundX (b := (v : Int)) (a := (u : Int)) (by omega) (by omega) (fun z => by rw [z.1] at hw; exact absurd hw (by decide))) dL_isStep_639 rfl rfl rfl (by omega) (by decide) (by omega) (by omega) (Nat.le_of_ble_eq_true rfl) (fun S3 h3 => ?_)
        refine J_sipush (pc1 := 645) (by decide) dL_isStep_642 rfl ?_
        refine J_icmp_ne (pc1 := 648) (tgt := 652) (by decide) (by decide) (by decide) (by decide) dL_isStep_645 rfl rfl (fun hc4 => ?_) (fun hc4 => ?_)
        · exact absurd hc4 (by decide)
        · refine J_iconst (pc1 := 649) dL_isStep_648 rfl ?_
          refine J_goto (tgt := 653) dL_isStep_649 rfl ?_
          exact J_iret rfl rfl dL_isStep_653 (by omega) (by omega) (kIS_mk rfl ⟨_, _, _, _, _, h3⟩)
  · exact absurd hc1 (by decide)
set_option maxHeartbeats 2000000 in
set_option maxRecDepth 20000 in
theorem st_roundX1 (hX : P2 S A B g tx L g tx2 L2) {v u : Nat} (hv : upF y 7 = (v : Int)) (hu : upF (y >>> (iI 4 &&& 31)) 7 = (u : Int)) (hv6 : v ≤ 6) (hu6 : u ≤ 6) (hw : winF g.1 = 1) : Jd yL_isStep cL_isStep 9 (some .boolean) 10 80 24000 (kIS 1 (fun T => LI T A B)) 0 0 S 552 [some (.ref (A 0)), some (.ref (B 0)), some (.int x), some (.int y), some (.int (x >>> (iI 4 &&& 31))), none, none, none, none] [] := by
  refine J_iload_n (pc1 := 553) rfl (i := 3) rfl dL_isStep_552 rfl ?_
  refine J_bipush (pc1 := 555) (by decide) dL_isStep_553 rfl ?_
  refine J_callSI (pc1 := 558) (As := [.int y, .int (iI 7)]) gs_L_17 yv_L_up ((c_L_upZ (x := y) (n := 7) (z := (v : Int)) ⟨by decide, by decide⟩ (hv))) dL_isStep_555 rfl rfl rfl (by omega) (by decide) (by omega) (by omega) (Nat.le_of_ble_eq_true rfl) ?_
  refine J_istore (pc1 := 560) (L1 := [some (.ref (A 0)), some (.ref (B 0)), some (.int x), some (.int y), some (.int (x >>> (iI 4 &&& 31))), some (.int (iI (v : Int))), none, none, none]) dL_isStep_558 rfl (by decide) rfl rfl ?_
  refine J_iload_n (pc1 := 561) rfl (i := 3) rfl dL_isStep_560 rfl ?_
  refine J_iconst (pc1 := 562) dL_isStep_561 rfl ?_
  refine J_ishr (pc1 := 563) dL_isStep_562 rfl ?_
  refine J_bipush (pc1 := 565) (by decide) dL_isStep_563 rfl ?_
  refine J_callSI (pc1 := 568) (As := [.int (y >>> ((iI 4) &&& 31)), .int (iI 7)]) gs_L_17 yv_L_up ((c_L_upZ (x := (y >>> ((iI 4) &&& 31))) (n := 7) (z := (u : Int)) ⟨by decide, by decide⟩ (hu))) dL_isStep_565 rfl rfl rfl (by omega) (by decide) (by omega) (by omega) (Nat.le_of_ble_eq_true rfl) ?_
  refine J_istore (pc1 := 570) (L1 := [some (.ref (A 0)), some (.ref (B 0)), some (.int x), some (.int y), some (.int (x >>> (iI 4 &&& 31))), some (.int (iI (v : Int))), some (.int (iI (u : Int))), none, none]) dL_isStep_568 rfl (by decide) rfl rfl ?_
  refine J_aload_n (pc1 := 571) rfl (i := 0) rfl dL_isStep_570 rfl ?_
  refine J_iconst (pc1 := 572) dL_isStep_571 rfl ?_
  refine J_mA (pc1 := 575) gv_L_23 yv_X9_count hX (m_cn (w := 5) (z := (-1006)) (by decide) (cz5x (by rw [hw]; decide))) dL_isStep_572 rfl rfl rfl (by omega) (by decide) (by omega) (by omega) (Nat.le_of_ble_eq_true rfl) (fun S1 h1 => ?_)
  refine J_istore (pc1 := 577) (L1 := [some (.ref (A 0)), some (.ref (B 0)), some (.int x), some (.int y), some (.int (x >>> (iI 4 &&& 31))), some (.int (iI (v : Int))), some (.int (iI (u : Int))), some (.int (iI (-1006))), none]) dL_isStep_575 rfl (by decide) rfl rfl ?_
  refine J_iload (pc1 := 579) rfl dL_isStep_577 rfl ?_
  refine J_if_lt (pc1 := 582) (tgt := 612) (by decide) (by decide) dL_isStep_579 rfl rfl (fun hc1 => ?_) (fun hc1 => ?_)
  · refine J_iconst (pc1 := 613) dL_isStep_612 rfl ?_
    refine J_istore (pc1 := 615) (L1 := [some (.ref (A 0)), some (.ref (B 0)), some (.int x), some (.int y), some (.int (x >>> (iI 4 &&& 31))), some (.int (iI (v : Int))), some (.int (iI (u : Int))), some (.int (iI (-1006))), some (.int (iI 0))]) dL_isStep_613 rfl (by decide) rfl rfl ?_
    refine J_iload (pc1 := 617) rfl dL_isStep_615 rfl ?_
    refine J_if_ne (pc1 := 620) (tgt := 654) (by decide) (by decide) dL_isStep_617 rfl rfl (fun hc2 => ?_) (fun hc2 => ?_)
    · exact absurd hc2 (by decide)
    · refine J_aload_n (pc1 := 621) rfl (i := 0) rfl dL_isStep_620 rfl ?_
      refine J_iload (pc1 := 623) rfl dL_isStep_621 rfl ?_
      refine J_iload (pc1 := 625) rfl dL_isStep_623 rfl ?_
      refine J_mA (pc1 := 628) gv_L_56 yv_X9_round h1 (m_roundX (b := (v : Int)) (a := (u : Int)) (by omega) (by omega) (fun z => by rw [z.1] at hw; exact absurd hw (by decide))) dL_isStep_625 rfl rfl rfl (by omega) (by decide) (by omega) (by omega) (Nat.le_of_ble_eq_true rfl) (fun S2 h2 => ?_)
      refine J_sipush (pc1 := 631) (by decide) dL_isStep_628 rfl ?_
      refine J_icmp_ne (pc1 := 634) (tgt := 652) (by decide) (by decide) (by decide) (by decide) dL_isStep_631 rfl rfl (fun hc3 => ?_) (fun hc3 => ?_)
      · exact absurd hc3 (by decide)
      · refine J_aload_n (pc1 := 635) rfl (i := 1) rfl dL_isStep_634 rfl ?_
        refine J_iload (pc1 := 637) rfl dL_isStep_635 rfl ?_
        refine J_iload (pc1 := 639) rfl dL_isStep_637 rfl ?_
        refine J_mB (pc1 := 642) gv_L_56 yv_X9_round h2 (m_roundX (b := (v : Int)) (a := (u : Int)) (by omega) (by omega) (fun z => by rw [z.1] at hw; exact absurd hw (by decide))) dL_isStep_639 rfl rfl rfl (by omega) (by decide) (by omega) (by omega) (Nat.le_of_ble_eq_true rfl) (fun S3 h3 => ?_)
        refine J_sipush (pc1 := 645) (by decide) dL_isStep_642 rfl ?_
        refine J_icmp_ne (pc1 := 648) (tgt := 652) (by decide) (by decide) (by decide) (by decide) dL_isStep_645 rfl rfl (fun hc4 => ?_) (fun hc4 => ?_)
        · exact absurd hc4 (by decide)
        · refine J_iconst (pc1 := 649) dL_isStep_648 rfl ?_
          refine J_goto (tgt := 653) dL_isStep_649 rfl ?_
          exact J_iret rfl rfl dL_isStep_653 (by omega) (by omega) (kIS_mk rfl ⟨_, _, _, _, _, h3⟩)
  · exact absurd hc1 (by decide)
set_option maxHeartbeats 2000000 in
set_option maxRecDepth 20000 in
theorem st_round0 (hX : P2 S A B g tx L g tx2 L2) {v u : Nat} (hv : upF y 7 = (v : Int)) (hu : upF (y >>> (iI 4 &&& 31)) 7 = (u : Int)) (hv6 : v ≤ 6) (hu6 : u ≤ 6) (hw : winF g.1 = -1006) (q5 : g.1 5 = 0) : Jd yL_isStep cL_isStep 9 (some .boolean) 10 80 24000 (kIS 1 (fun T => LI T A B)) 0 0 S 552 [some (.ref (A 0)), some (.ref (B 0)), some (.int x), some (.int y), some (.int (x >>> (iI 4 &&& 31))), none, none, none, none] [] := by
  have ok := hX.oa.1.1
  have hL2 := hX.s.la
  have m0 := moF_b (p := 0) ok
  have m1 := moF_b (p := 1) ok
  have e0 : moF g.1 0 = g.1 7 + g.1 1 := rfl
  have e1 : moF g.1 1 = g.1 8 + g.1 1 := rfl
  rw [e0] at m0
  rw [e1] at m1
  have hal : alF g.1 (v : Int) (u : Int) ↔ (v : Int) ≤ g.1 7 + g.1 1 ∧ (u : Int) ≤ g.1 8 + g.1 1 := by
    unfold alF
    rw [q5]
    exact ⟨fun z => z.2, fun z => ⟨hw, z⟩⟩
  refine J_iload_n (pc1 := 553) rfl (i := 3) rfl dL_isStep_552 rfl ?_
  refine J_bipush (pc1 := 555) (by decide) dL_isStep_553 rfl ?_
  refine J_callSI (pc1 := 558) (As := [.int y, .int (iI 7)]) gs_L_17 yv_L_up ((c_L_upZ (x := y) (n := 7) (z := (v : Int)) ⟨by decide, by decide⟩ (hv))) dL_isStep_555 rfl rfl rfl (by omega) (by decide) (by omega) (by omega) (Nat.le_of_ble_eq_true rfl) ?_
  refine J_istore (pc1 := 560) (L1 := [some (.ref (A 0)), some (.ref (B 0)), some (.int x), some (.int y), some (.int (x >>> (iI 4 &&& 31))), some (.int (iI (v : Int))), none, none, none]) dL_isStep_558 rfl (by decide) rfl rfl ?_
  refine J_iload_n (pc1 := 561) rfl (i := 3) rfl dL_isStep_560 rfl ?_
  refine J_iconst (pc1 := 562) dL_isStep_561 rfl ?_
  refine J_ishr (pc1 := 563) dL_isStep_562 rfl ?_
  refine J_bipush (pc1 := 565) (by decide) dL_isStep_563 rfl ?_
  refine J_callSI (pc1 := 568) (As := [.int (y >>> ((iI 4) &&& 31)), .int (iI 7)]) gs_L_17 yv_L_up ((c_L_upZ (x := (y >>> ((iI 4) &&& 31))) (n := 7) (z := (u : Int)) ⟨by decide, by decide⟩ (hu))) dL_isStep_565 rfl rfl rfl (by omega) (by decide) (by omega) (by omega) (Nat.le_of_ble_eq_true rfl) ?_
  refine J_istore (pc1 := 570) (L1 := [some (.ref (A 0)), some (.ref (B 0)), some (.int x), some (.int y), some (.int (x >>> (iI 4 &&& 31))), some (.int (iI (v : Int))), some (.int (iI (u : Int))), none, none]) dL_isStep_568 rfl (by decide) rfl rfl ?_
  refine J_aload_n (pc1 := 571) rfl (i := 0) rfl dL_isStep_570 rfl ?_
  refine J_iconst (pc1 := 572) dL_isStep_571 rfl ?_
  refine J_mA (pc1 := 575) gv_L_23 yv_X9_count hX (m_cn (w := 5) (z := 0) (by decide) ((cz5 hw).trans q5)) dL_isStep_572 rfl rfl rfl (by omega) (by decide) (by omega) (by omega) (Nat.le_of_ble_eq_true rfl) (fun S1 h1 => ?_)
  refine J_istore (pc1 := 577) (L1 := [some (.ref (A 0)), some (.ref (B 0)), some (.int x), some (.int y), some (.int (x >>> (iI 4 &&& 31))), some (.int (iI (v : Int))), some (.int (iI (u : Int))), some (.int (iI 0)), none]) dL_isStep_575 rfl (by decide) rfl rfl ?_
  refine J_iload (pc1 := 579) rfl dL_isStep_577 rfl ?_
  refine J_if_lt (pc1 := 582) (tgt := 612) (by decide) (by decide) dL_isStep_579 rfl rfl (fun hc1 => ?_) (fun hc1 => ?_)
  · exact absurd hc1 (by decide)
  · refine J_iload (pc1 := 584) rfl dL_isStep_582 rfl ?_
    refine J_aload_n (pc1 := 585) rfl (i := 0) rfl dL_isStep_584 rfl ?_
    refine J_iload (pc1 := 587) rfl dL_isStep_585 rfl ?_
    refine J_iconst (pc1 := 588) dL_isStep_587 rfl ?_
    refine J_mA (pc1 := 591) gv_L_37 yv_X9_player h1 (m_pl (p := 0) (w := 1) (z := g.1 7 + g.1 1) (Or.inl rfl) (by decide) rfl) dL_isStep_588 rfl rfl rfl (by omega) (by decide) (by omega) (by omega) (Nat.le_of_ble_eq_true rfl) (fun S2 h2 => ?_)
    refine J_icmp_gt (pc1 := 594) (tgt := 612) (by omega) (by omega) (by omega) (by omega) dL_isStep_591 rfl rfl (fun hc2 => ?_) (fun hc2 => ?_)
    · refine J_iconst (pc1 := 613) dL_isStep_612 rfl ?_
      refine J_istore (pc1 := 615) (L1 := [some (.ref (A 0)), some (.ref (B 0)), some (.int x), some (.int y), some (.int (x >>> (iI 4 &&& 31))), some (.int (iI (v : Int))), some (.int (iI (u : Int))), some (.int (iI 0)), some (.int (iI 0))]) dL_isStep_613 rfl (by decide) rfl rfl ?_
      refine J_iload (pc1 := 617) rfl dL_isStep_615 rfl ?_
      refine J_if_ne (pc1 := 620) (tgt := 654) (by decide) (by decide) dL_isStep_617 rfl rfl (fun hc3 => ?_) (fun hc3 => ?_)
      · exact absurd hc3 (by decide)
      · refine J_aload_n (pc1 := 621) rfl (i := 0) rfl dL_isStep_620 rfl ?_
        refine J_iload (pc1 := 623) rfl dL_isStep_621 rfl ?_
        refine J_iload (pc1 := 625) rfl dL_isStep_623 rfl ?_
        refine J_mA (pc1 := 628) gv_L_56 yv_X9_round h2 (m_roundX (b := (v : Int)) (a := (u : Int)) (by omega) (by omega) (fun z => by have := hal.mp z; omega)) dL_isStep_625 rfl rfl rfl (by omega) (by decide) (by omega) (by omega) (Nat.le_of_ble_eq_true rfl) (fun S3 h3 => ?_)
        refine J_sipush (pc1 := 631) (by decide) dL_isStep_628 rfl ?_
        refine J_icmp_ne (pc1 := 634) (tgt := 652) (by decide) (by decide) (by decide) (by decide) dL_isStep_631 rfl rfl (fun hc4 => ?_) (fun hc4 => ?_)
        · exact absurd hc4 (by decide)
        · refine J_aload_n (pc1 := 635) rfl (i := 1) rfl dL_isStep_634 rfl ?_
          refine J_iload (pc1 := 637) rfl dL_isStep_635 rfl ?_
          refine J_iload (pc1 := 639) rfl dL_isStep_637 rfl ?_
          refine J_mB (pc1 := 642) gv_L_56 yv_X9_round h3 (m_roundX (b := (v : Int)) (a := (u : Int)) (by omega) (by omega) (fun z => by have := hal.mp z; omega)) dL_isStep_639 rfl rfl rfl (by omega) (by decide) (by omega) (by omega) (Nat.le_of_ble_eq_true rfl) (fun S4 h4 => ?_)
          refine J_sipush (pc1 := 645) (by decide) dL_isStep_642 rfl ?_
          refine J_icmp_ne (pc1 := 648) (tgt := 652) (by decide) (by decide) (by decide) (by decide) dL_isStep_645 rfl rfl (fun hc5 => ?_) (fun hc5 => ?_)
          · exact absurd hc5 (by decide)
          · refine J_iconst (pc1 := 649) dL_isStep_648 rfl ?_
            refine J_goto (tgt := 653) dL_isStep_649 rfl ?_
            exact J_iret rfl rfl dL_isStep_653 (by omega) (by omega) (kIS_mk rfl ⟨_, _, _, _, _, h4⟩)
    · refine J_iload (pc1 := 596) rfl dL_isStep_594 rfl ?_
      refine J_aload_n (pc1 := 597) rfl (i := 0) rfl dL_isStep_596 rfl ?_
      refine J_iconst (pc1 := 598) dL_isStep_597 rfl ?_
      refine J_iload (pc1 := 600) rfl dL_isStep_598 rfl ?_
      refine J_isubE (pc1 := 601) (z := 1) (by decide) dL_isStep_600 rfl ?_
      refine J_iconst (pc1 := 602) dL_isStep_601 rfl ?_
      refine J_mA (pc1 := 605) gv_L_37 yv_X9_player h2 (m_pl (p := 1) (w := 1) (z := g.1 8 + g.1 1) (Or.inr rfl) (by decide) rfl) dL_isStep_602 rfl rfl rfl (by omega) (by decide) (by omega) (by omega) (Nat.le_of_ble_eq_true rfl) (fun S5 h5 => ?_)
      refine J_icmp_gt (pc1 := 608) (tgt := 612) (by omega) (by omega) (by omega) (by omega) dL_isStep_605 rfl rfl (fun hc6 => ?_) (fun hc6 => ?_)
      · refine J_iconst (pc1 := 613) dL_isStep_612 rfl ?_
        refine J_istore (pc1 := 615) (L1 := [some (.ref (A 0)), some (.ref (B 0)), some (.int x), some (.int y), some (.int (x >>> (iI 4 &&& 31))), some (.int (iI (v : Int))), some (.int (iI (u : Int))), some (.int (iI 0)), some (.int (iI 0))]) dL_isStep_613 rfl (by decide) rfl rfl ?_
        refine J_iload (pc1 := 617) rfl dL_isStep_615 rfl ?_
        refine J_if_ne (pc1 := 620) (tgt := 654) (by decide) (by decide) dL_isStep_617 rfl rfl (fun hc7 => ?_) (fun hc7 => ?_)
        · exact absurd hc7 (by decide)
        · refine J_aload_n (pc1 := 621) rfl (i := 0) rfl dL_isStep_620 rfl ?_
          refine J_iload (pc1 := 623) rfl dL_isStep_621 rfl ?_
          refine J_iload (pc1 := 625) rfl dL_isStep_623 rfl ?_
          refine J_mA (pc1 := 628) gv_L_56 yv_X9_round h5 (m_roundX (b := (v : Int)) (a := (u : Int)) (by omega) (by omega) (fun z => by have := hal.mp z; omega)) dL_isStep_625 rfl rfl rfl (by omega) (by decide) (by omega) (by omega) (Nat.le_of_ble_eq_true rfl) (fun S6 h6 => ?_)
          refine J_sipush (pc1 := 631) (by decide) dL_isStep_628 rfl ?_
          refine J_icmp_ne (pc1 := 634) (tgt := 652) (by decide) (by decide) (by decide) (by decide) dL_isStep_631 rfl rfl (fun hc8 => ?_) (fun hc8 => ?_)
          · exact absurd hc8 (by decide)
          · refine J_aload_n (pc1 := 635) rfl (i := 1) rfl dL_isStep_634 rfl ?_
            refine J_iload (pc1 := 637) rfl dL_isStep_635 rfl ?_
            refine J_iload (pc1 := 639) rfl dL_isStep_637 rfl ?_
            refine J_mB (pc1 := 642) gv_L_56 yv_X9_round h6 (m_roundX (b := (v : Int)) (a := (u : Int)) (by omega) (by omega) (fun z => by have := hal.mp z; omega)) dL_isStep_639 rfl rfl rfl (by omega) (by decide) (by omega) (by omega) (Nat.le_of_ble_eq_true rfl) (fun S7 h7 => ?_)
            refine J_sipush (pc1 := 645) (by decide) dL_isStep_642 rfl ?_
            refine J_icmp_ne (pc1 := 648) (tgt := 652) (by decide) (by decide) (by decide) (by decide) dL_isStep_645 rfl rfl (fun hc9 => ?_) (fun hc9 => ?_)
            · exact absurd hc9 (by decide)
            · refine J_iconst (pc1 := 649) dL_isStep_648 rfl ?_
              refine J_goto (tgt := 653) dL_isStep_649 rfl ?_
              exact J_iret rfl rfl dL_isStep_653 (by omega) (by omega) (kIS_mk rfl ⟨_, _, _, _, _, h7⟩)
      · refine J_iconst (pc1 := 609) dL_isStep_608 rfl ?_
        refine J_goto (tgt := 613) dL_isStep_609 rfl ?_
        refine J_istore (pc1 := 615) (L1 := [some (.ref (A 0)), some (.ref (B 0)), some (.int x), some (.int y), some (.int (x >>> (iI 4 &&& 31))), some (.int (iI (v : Int))), some (.int (iI (u : Int))), some (.int (iI 0)), some (.int (iI 1))]) dL_isStep_613 rfl (by decide) rfl rfl ?_
        refine J_iload (pc1 := 617) rfl dL_isStep_615 rfl ?_
        refine J_if_ne (pc1 := 620) (tgt := 654) (by decide) (by decide) dL_isStep_617 rfl rfl (fun hc10 => ?_) (fun hc10 => ?_)
        · refine J_aload_n (pc1 := 655) rfl (i := 0) rfl dL_isStep_654 rfl ?_
          refine J_iload (pc1 := 657) rfl dL_isStep_655 rfl ?_
          refine J_iload (pc1 := 659) rfl dL_isStep_657 rfl ?_
          refine J_iload (pc1 := 661) rfl dL_isStep_659 rfl ?_
          refine J_sA (pc1 := 664) gs_L_59 yv_L_isRound h5 (m_isRoundZ (b := (v : Int)) (a := (u : Int)) (by omega) (by omega) (hal.mpr ⟨by omega, by omega⟩) q5) dL_isStep_661 rfl rfl rfl (by omega) (by decide) (by omega) (by omega) (Nat.le_of_ble_eq_true rfl) (fun S8 h8 => ?_)
          refine J_if_eq (pc1 := 667) (tgt := 714) (by decide) (by decide) dL_isStep_664 rfl rfl (fun hc11 => ?_) (fun hc11 => ?_)
          · exact absurd hc11 (by decide)
          · refine J_aload_n (pc1 := 668) rfl (i := 1) rfl dL_isStep_667 rfl ?_
            refine J_mB (pc1 := 671) gv_L_63 yv_X9_wipe h8 (m_wipe) dL_isStep_668 rfl rfl rfl (by omega) (by decide) (by omega) (by omega) (Nat.le_of_ble_eq_true rfl) (fun S9 h9 => ?_)
            refine J_if_lt (pc1 := 674) (tgt := 714) (by omega) (by omega) dL_isStep_671 rfl rfl (fun hc12 => ?_) (fun hc12 => ?_)
            · exact absurd hc12 (by omega)
            · refine J_aload_n (pc1 := 675) rfl (i := 1) rfl dL_isStep_674 rfl ?_
              refine J_iload (pc1 := 677) rfl dL_isStep_675 rfl ?_
              refine J_sB (pc1 := 680) gs_L_66 yv_L_number h9 (m_number (v := v) (by omega) (by decide)) dL_isStep_677 rfl rfl rfl (by omega) (by decide) (by omega) (by omega) (Nat.le_of_ble_eq_true rfl) (fun S10 h10 => ?_)
              refine J_if_eq (pc1 := 683) (tgt := 714) (by decide) (by decide) dL_isStep_680 rfl rfl (fun hc13 => ?_) (fun hc13 => ?_)
              · exact absurd hc13 (by decide)
              · refine J_aload_n (pc1 := 684) rfl (i := 1) rfl dL_isStep_683 rfl ?_
                refine J_ldc2 (pc1 := 687) lq_L_70 dL_isStep_684 rfl ?_
                refine J_mB (pc1 := 690) gv_L_11 yv_X9_put h10 (m_put (x := 58) (by decide) (by decide)) dL_isStep_687 rfl rfl rfl (by omega) (by decide) (by omega) (by omega) (Nat.le_of_ble_eq_true rfl) (fun S11 h11 => ?_)
                refine J_if_le (pc1 := 693) (tgt := 714) (by omega) (by omega) dL_isStep_690 rfl rfl (fun hc14 => ?_) (fun hc14 => ?_)
                · exact absurd hc14 (by omega)
                · refine J_aload_n (pc1 := 694) rfl (i := 1) rfl dL_isStep_693 rfl ?_
                  refine J_iload (pc1 := 696) rfl dL_isStep_694 rfl ?_
                  refine J_sB (pc1 := 699) gs_L_66 yv_L_number h11 (m_number (v := u) (by omega) (by decide)) dL_isStep_696 rfl rfl rfl (by omega) (by decide) (by omega) (by omega) (Nat.le_of_ble_eq_true rfl) (fun S12 h12 => ?_)
                  refine J_if_eq (pc1 := 702) (tgt := 714) (by decide) (by decide) dL_isStep_699 rfl rfl (fun hc15 => ?_) (fun hc15 => ?_)
                  · exact absurd hc15 (by decide)
                  · refine J_aload_n (pc1 := 703) rfl (i := 1) rfl dL_isStep_702 rfl ?_
                    refine J_mB (pc1 := 706) gv_L_72 yv_X9_run h12 (m_run (b := (v : Int)) (a := (u : Int)) (by omega) (by omega) (hal.mpr ⟨by omega, by omega⟩) (tx3_R tx2 hv6 hu6) (tx3_d tx2 hv6 hu6)) dL_isStep_703 rfl rfl rfl (by omega) (by decide) (by omega) (by omega) (Nat.le_of_ble_eq_true rfl) (fun S13 h13 => ?_)
                    refine J_iconst (pc1 := 707) dL_isStep_706 rfl ?_
                    refine J_icmp_ne (pc1 := 710) (tgt := 714) (by decide) (by decide) (by decide) (by decide) dL_isStep_707 rfl rfl (fun hc16 => ?_) (fun hc16 => ?_)
                    · exact absurd hc16 (by decide)
                    · refine J_iconst (pc1 := 711) dL_isStep_710 rfl ?_
                      refine J_goto (tgt := 715) dL_isStep_711 rfl ?_
                      exact J_iret rfl rfl dL_isStep_715 (by omega) (by omega) (kIS_mk rfl ⟨_, _, _, _, _, h13⟩)
        · exact absurd hc10 (by decide)
set_option maxHeartbeats 2000000 in
set_option maxRecDepth 20000 in
theorem st_round1 (hX : P2 S A B g tx L g tx2 L2) {v u : Nat} (hv : upF y 7 = (v : Int)) (hu : upF (y >>> (iI 4 &&& 31)) 7 = (u : Int)) (hv6 : v ≤ 6) (hu6 : u ≤ 6) (hw : winF g.1 = -1006) (q5 : g.1 5 = 1) : Jd yL_isStep cL_isStep 9 (some .boolean) 10 80 24000 (kIS 1 (fun T => LI T A B)) 0 0 S 552 [some (.ref (A 0)), some (.ref (B 0)), some (.int x), some (.int y), some (.int (x >>> (iI 4 &&& 31))), none, none, none, none] [] := by
  have ok := hX.oa.1.1
  have hL2 := hX.s.la
  have m0 := moF_b (p := 0) ok
  have m1 := moF_b (p := 1) ok
  have e0 : moF g.1 0 = g.1 7 + g.1 1 := rfl
  have e1 : moF g.1 1 = g.1 8 + g.1 1 := rfl
  rw [e0] at m0
  rw [e1] at m1
  have hal : alF g.1 (v : Int) (u : Int) ↔ (v : Int) ≤ g.1 8 + g.1 1 ∧ (u : Int) ≤ g.1 7 + g.1 1 := by
    unfold alF
    rw [q5]
    exact ⟨fun z => z.2, fun z => ⟨hw, z⟩⟩
  refine J_iload_n (pc1 := 553) rfl (i := 3) rfl dL_isStep_552 rfl ?_
  refine J_bipush (pc1 := 555) (by decide) dL_isStep_553 rfl ?_
  refine J_callSI (pc1 := 558) (As := [.int y, .int (iI 7)]) gs_L_17 yv_L_up ((c_L_upZ (x := y) (n := 7) (z := (v : Int)) ⟨by decide, by decide⟩ (hv))) dL_isStep_555 rfl rfl rfl (by omega) (by decide) (by omega) (by omega) (Nat.le_of_ble_eq_true rfl) ?_
  refine J_istore (pc1 := 560) (L1 := [some (.ref (A 0)), some (.ref (B 0)), some (.int x), some (.int y), some (.int (x >>> (iI 4 &&& 31))), some (.int (iI (v : Int))), none, none, none]) dL_isStep_558 rfl (by decide) rfl rfl ?_
  refine J_iload_n (pc1 := 561) rfl (i := 3) rfl dL_isStep_560 rfl ?_
  refine J_iconst (pc1 := 562) dL_isStep_561 rfl ?_
  refine J_ishr (pc1 := 563) dL_isStep_562 rfl ?_
  refine J_bipush (pc1 := 565) (by decide) dL_isStep_563 rfl ?_
  refine J_callSI (pc1 := 568) (As := [.int (y >>> ((iI 4) &&& 31)), .int (iI 7)]) gs_L_17 yv_L_up ((c_L_upZ (x := (y >>> ((iI 4) &&& 31))) (n := 7) (z := (u : Int)) ⟨by decide, by decide⟩ (hu))) dL_isStep_565 rfl rfl rfl (by omega) (by decide) (by omega) (by omega) (Nat.le_of_ble_eq_true rfl) ?_
  refine J_istore (pc1 := 570) (L1 := [some (.ref (A 0)), some (.ref (B 0)), some (.int x), some (.int y), some (.int (x >>> (iI 4 &&& 31))), some (.int (iI (v : Int))), some (.int (iI (u : Int))), none, none]) dL_isStep_568 rfl (by decide) rfl rfl ?_
  refine J_aload_n (pc1 := 571) rfl (i := 0) rfl dL_isStep_570 rfl ?_
  refine J_iconst (pc1 := 572) dL_isStep_571 rfl ?_
  refine J_mA (pc1 := 575) gv_L_23 yv_X9_count hX (m_cn (w := 5) (z := 1) (by decide) ((cz5 hw).trans q5)) dL_isStep_572 rfl rfl rfl (by omega) (by decide) (by omega) (by omega) (Nat.le_of_ble_eq_true rfl) (fun S1 h1 => ?_)
  refine J_istore (pc1 := 577) (L1 := [some (.ref (A 0)), some (.ref (B 0)), some (.int x), some (.int y), some (.int (x >>> (iI 4 &&& 31))), some (.int (iI (v : Int))), some (.int (iI (u : Int))), some (.int (iI 1)), none]) dL_isStep_575 rfl (by decide) rfl rfl ?_
  refine J_iload (pc1 := 579) rfl dL_isStep_577 rfl ?_
  refine J_if_lt (pc1 := 582) (tgt := 612) (by decide) (by decide) dL_isStep_579 rfl rfl (fun hc1 => ?_) (fun hc1 => ?_)
  · exact absurd hc1 (by decide)
  · refine J_iload (pc1 := 584) rfl dL_isStep_582 rfl ?_
    refine J_aload_n (pc1 := 585) rfl (i := 0) rfl dL_isStep_584 rfl ?_
    refine J_iload (pc1 := 587) rfl dL_isStep_585 rfl ?_
    refine J_iconst (pc1 := 588) dL_isStep_587 rfl ?_
    refine J_mA (pc1 := 591) gv_L_37 yv_X9_player h1 (m_pl (p := 1) (w := 1) (z := g.1 8 + g.1 1) (Or.inr rfl) (by decide) rfl) dL_isStep_588 rfl rfl rfl (by omega) (by decide) (by omega) (by omega) (Nat.le_of_ble_eq_true rfl) (fun S2 h2 => ?_)
    refine J_icmp_gt (pc1 := 594) (tgt := 612) (by omega) (by omega) (by omega) (by omega) dL_isStep_591 rfl rfl (fun hc2 => ?_) (fun hc2 => ?_)
    · refine J_iconst (pc1 := 613) dL_isStep_612 rfl ?_
      refine J_istore (pc1 := 615) (L1 := [some (.ref (A 0)), some (.ref (B 0)), some (.int x), some (.int y), some (.int (x >>> (iI 4 &&& 31))), some (.int (iI (v : Int))), some (.int (iI (u : Int))), some (.int (iI 1)), some (.int (iI 0))]) dL_isStep_613 rfl (by decide) rfl rfl ?_
      refine J_iload (pc1 := 617) rfl dL_isStep_615 rfl ?_
      refine J_if_ne (pc1 := 620) (tgt := 654) (by decide) (by decide) dL_isStep_617 rfl rfl (fun hc3 => ?_) (fun hc3 => ?_)
      · exact absurd hc3 (by decide)
      · refine J_aload_n (pc1 := 621) rfl (i := 0) rfl dL_isStep_620 rfl ?_
        refine J_iload (pc1 := 623) rfl dL_isStep_621 rfl ?_
        refine J_iload (pc1 := 625) rfl dL_isStep_623 rfl ?_
        refine J_mA (pc1 := 628) gv_L_56 yv_X9_round h2 (m_roundX (b := (v : Int)) (a := (u : Int)) (by omega) (by omega) (fun z => by have := hal.mp z; omega)) dL_isStep_625 rfl rfl rfl (by omega) (by decide) (by omega) (by omega) (Nat.le_of_ble_eq_true rfl) (fun S3 h3 => ?_)
        refine J_sipush (pc1 := 631) (by decide) dL_isStep_628 rfl ?_
        refine J_icmp_ne (pc1 := 634) (tgt := 652) (by decide) (by decide) (by decide) (by decide) dL_isStep_631 rfl rfl (fun hc4 => ?_) (fun hc4 => ?_)
        · exact absurd hc4 (by decide)
        · refine J_aload_n (pc1 := 635) rfl (i := 1) rfl dL_isStep_634 rfl ?_
          refine J_iload (pc1 := 637) rfl dL_isStep_635 rfl ?_
          refine J_iload (pc1 := 639) rfl dL_isStep_637 rfl ?_
          refine J_mB (pc1 := 642) gv_L_56 yv_X9_round h3 (m_roundX (b := (v : Int)) (a := (u : Int)) (by omega) (by omega) (fun z => by have := hal.mp z; omega)) dL_isStep_639 rfl rfl rfl (by omega) (by decide) (by omega) (by omega) (Nat.le_of_ble_eq_true rfl) (fun S4 h4 => ?_)
          refine J_sipush (pc1 := 645) (by decide) dL_isStep_642 rfl ?_
          refine J_icmp_ne (pc1 := 648) (tgt := 652) (by decide) (by decide) (by decide) (by decide) dL_isStep_645 rfl rfl (fun hc5 => ?_) (fun hc5 => ?_)
          · exact absurd hc5 (by decide)
          · refine J_iconst (pc1 := 649) dL_isStep_648 rfl ?_
            refine J_goto (tgt := 653) dL_isStep_649 rfl ?_
            exact J_iret rfl rfl dL_isStep_653 (by omega) (by omega) (kIS_mk rfl ⟨_, _, _, _, _, h4⟩)
    · refine J_iload (pc1 := 596) rfl dL_isStep_594 rfl ?_
      refine J_aload_n (pc1 := 597) rfl (i := 0) rfl dL_isStep_596 rfl ?_
      refine J_iconst (pc1 := 598) dL_isStep_597 rfl ?_
      refine J_iload (pc1 := 600) rfl dL_isStep_598 rfl ?_
      refine J_isubE (pc1 := 601) (z := 0) (by decide) dL_isStep_600 rfl ?_
      refine J_iconst (pc1 := 602) dL_isStep_601 rfl ?_
      refine J_mA (pc1 := 605) gv_L_37 yv_X9_player h2 (m_pl (p := 0) (w := 1) (z := g.1 7 + g.1 1) (Or.inl rfl) (by decide) rfl) dL_isStep_602 rfl rfl rfl (by omega) (by decide) (by omega) (by omega) (Nat.le_of_ble_eq_true rfl) (fun S5 h5 => ?_)
      refine J_icmp_gt (pc1 := 608) (tgt := 612) (by omega) (by omega) (by omega) (by omega) dL_isStep_605 rfl rfl (fun hc6 => ?_) (fun hc6 => ?_)
      · refine J_iconst (pc1 := 613) dL_isStep_612 rfl ?_
        refine J_istore (pc1 := 615) (L1 := [some (.ref (A 0)), some (.ref (B 0)), some (.int x), some (.int y), some (.int (x >>> (iI 4 &&& 31))), some (.int (iI (v : Int))), some (.int (iI (u : Int))), some (.int (iI 1)), some (.int (iI 0))]) dL_isStep_613 rfl (by decide) rfl rfl ?_
        refine J_iload (pc1 := 617) rfl dL_isStep_615 rfl ?_
        refine J_if_ne (pc1 := 620) (tgt := 654) (by decide) (by decide) dL_isStep_617 rfl rfl (fun hc7 => ?_) (fun hc7 => ?_)
        · exact absurd hc7 (by decide)
        · refine J_aload_n (pc1 := 621) rfl (i := 0) rfl dL_isStep_620 rfl ?_
          refine J_iload (pc1 := 623) rfl dL_isStep_621 rfl ?_
          refine J_iload (pc1 := 625) rfl dL_isStep_623 rfl ?_
          refine J_mA (pc1 := 628) gv_L_56 yv_X9_round h5 (m_roundX (b := (v : Int)) (a := (u : Int)) (by omega) (by omega) (fun z => by have := hal.mp z; omega)) dL_isStep_625 rfl rfl rfl (by omega) (by decide) (by omega) (by omega) (Nat.le_of_ble_eq_true rfl) (fun S6 h6 => ?_)
          refine J_sipush (pc1 := 631) (by decide) dL_isStep_628 rfl ?_
          refine J_icmp_ne (pc1 := 634) (tgt := 652) (by decide) (by decide) (by decide) (by decide) dL_isStep_631 rfl rfl (fun hc8 => ?_) (fun hc8 => ?_)
          · exact absurd hc8 (by decide)
          · refine J_aload_n (pc1 := 635) rfl (i := 1) rfl dL_isStep_634 rfl ?_
            refine J_iload (pc1 := 637) rfl dL_isStep_635 rfl ?_
            refine J_iload (pc1 := 639) rfl dL_isStep_637 rfl ?_
            refine J_mB (pc1 := 642) gv_L_56 yv_X9_round h6 (m_roundX (b := (v : Int)) (a := (u : Int)) (by omega) (by omega) (fun z => by have := hal.mp z; omega)) dL_isStep_639 rfl rfl rfl (by omega) (by decide) (by omega) (by omega) (Nat.le_of_ble_eq_true rfl) (fun S7 h7 => ?_)
            refine J_sipush (pc1 := 645) (by decide) dL_isStep_642 rfl ?_
            refine J_icmp_ne (pc1 := 648) (tgt := 652) (by decide) (by decide) (by decide) (by decide) dL_isStep_645 rfl rfl (fun hc9 => ?_) (fun hc9 => ?_)
            · exact absurd hc9 (by decide)
            · refine J_iconst (pc1 := 649) dL_isStep_648 rfl ?_
              refine J_goto (tgt := 653) dL_isStep_649 rfl ?_
              exact J_iret rfl rfl dL_isStep_653 (by omega) (by omega) (kIS_mk rfl ⟨_, _, _, _, _, h7⟩)
      · refine J_iconst (pc1 := 609) dL_isStep_608 rfl ?_
        refine J_goto (tgt := 613) dL_isStep_609 rfl ?_
        refine J_istore (pc1 := 615) (L1 := [some (.ref (A 0)), some (.ref (B 0)), some (.int x), some (.int y), some (.int (x >>> (iI 4 &&& 31))), some (.int (iI (v : Int))), some (.int (iI (u : Int))), some (.int (iI 1)), some (.int (iI 1))]) dL_isStep_613 rfl (by decide) rfl rfl ?_
        refine J_iload (pc1 := 617) rfl dL_isStep_615 rfl ?_
        refine J_if_ne (pc1 := 620) (tgt := 654) (by decide) (by decide) dL_isStep_617 rfl rfl (fun hc10 => ?_) (fun hc10 => ?_)
        · refine J_aload_n (pc1 := 655) rfl (i := 0) rfl dL_isStep_654 rfl ?_
          refine J_iload (pc1 := 657) rfl dL_isStep_655 rfl ?_
          refine J_iload (pc1 := 659) rfl dL_isStep_657 rfl ?_
          refine J_iload (pc1 := 661) rfl dL_isStep_659 rfl ?_
          refine J_sA (pc1 := 664) gs_L_59 yv_L_isRound h5 (m_isRoundZ (b := (v : Int)) (a := (u : Int)) (by omega) (by omega) (hal.mpr ⟨by omega, by omega⟩) q5) dL_isStep_661 rfl rfl rfl (by omega) (by decide) (by omega) (by omega) (Nat.le_of_ble_eq_true rfl) (fun S8 h8 => ?_)
          refine J_if_eq (pc1 := 667) (tgt := 714) (by decide) (by decide) dL_isStep_664 rfl rfl (fun hc11 => ?_) (fun hc11 => ?_)
          · exact absurd hc11 (by decide)
          · refine J_aload_n (pc1 := 668) rfl (i := 1) rfl dL_isStep_667 rfl ?_
            refine J_mB (pc1 := 671) gv_L_63 yv_X9_wipe h8 (m_wipe) dL_isStep_668 rfl rfl rfl (by omega) (by decide) (by omega) (by omega) (Nat.le_of_ble_eq_true rfl) (fun S9 h9 => ?_)
            refine J_if_lt (pc1 := 674) (tgt := 714) (by omega) (by omega) dL_isStep_671 rfl rfl (fun hc12 => ?_) (fun hc12 => ?_)
            · exact absurd hc12 (by omega)
            · refine J_aload_n (pc1 := 675) rfl (i := 1) rfl dL_isStep_674 rfl ?_
              refine J_iload (pc1 := 677) rfl dL_isStep_675 rfl ?_
              refine J_sB (pc1 := 680) gs_L_66 yv_L_number h9 (m_number (v := v) (by omega) (by decide)) dL_isStep_677 rfl rfl rfl (by omega) (by decide) (by omega) (by omega) (Nat.le_of_ble_eq_true rfl) (fun S10 h10 => ?_)
              refine J_if_eq (pc1 := 683) (tgt := 714) (by decide) (by decide) dL_isStep_680 rfl rfl (fun hc13 => ?_) (fun hc13 => ?_)
              · exact absurd hc13 (by decide)
              · refine J_aload_n (pc1 := 684) rfl (i := 1) rfl dL_isStep_683 rfl ?_
                refine J_ldc2 (pc1 := 687) lq_L_70 dL_isStep_684 rfl ?_
                refine J_mB (pc1 := 690) gv_L_11 yv_X9_put h10 (m_put (x := 58) (by decide) (by decide)) dL_isStep_687 rfl rfl rfl (by omega) (by decide) (by omega) (by omega) (Nat.le_of_ble_eq_true rfl) (fun S11 h11 => ?_)
                refine J_if_le (pc1 := 693) (tgt := 714) (by omega) (by omega) dL_isStep_690 rfl rfl (fun hc14 => ?_) (fun hc14 => ?_)
                · exact absurd hc14 (by omega)
                · refine J_aload_n (pc1 := 694) rfl (i := 1) rfl dL_isStep_693 rfl ?_
                  refine J_iload (pc1 := 696) rfl dL_isStep_694 rfl ?_
                  refine J_sB (pc1 := 699) gs_L_66 yv_L_number h11 (m_number (v := u) (by omega) (by decide)) dL_isStep_696 rfl rfl rfl (by omega) (by decide) (by omega) (by omega) (Nat.le_of_ble_eq_true rfl) (fun S12 h12 => ?_)
                  refine J_if_eq (pc1 := 702) (tgt := 714) (by decide) (by decide) dL_isStep_699 rfl rfl (fun hc15 => ?_) (fun hc15 => ?_)
                  · exact absurd hc15 (by decide)
                  · refine J_aload_n (pc1 := 703) rfl (i := 1) rfl dL_isStep_702 rfl ?_
                    refine J_mB (pc1 := 706) gv_L_72 yv_X9_run h12 (m_run (b := (v : Int)) (a := (u : Int)) (by omega) (by omega) (hal.mpr ⟨by omega, by omega⟩) (tx3_R tx2 hv6 hu6) (tx3_d tx2 hv6 hu6)) dL_isStep_703 rfl rfl rfl (by omega) (by decide) (by omega) (by omega) (Nat.le_of_ble_eq_true rfl) (fun S13 h13 => ?_)
                    refine J_iconst (pc1 := 707) dL_isStep_706 rfl ?_
                    refine J_icmp_ne (pc1 := 710) (tgt := 714) (by decide) (by decide) (by decide) (by decide) dL_isStep_707 rfl rfl (fun hc16 => ?_) (fun hc16 => ?_)
                    · exact absurd hc16 (by decide)
                    · refine J_iconst (pc1 := 711) dL_isStep_710 rfl ?_
                      refine J_goto (tgt := 715) dL_isStep_711 rfl ?_
                      exact J_iret rfl rfl dL_isStep_715 (by omega) (by omega) (kIS_mk rfl ⟨_, _, _, _, _, h13⟩)
        · exact absurd hc10 (by decide)
set_option maxHeartbeats 2000000 in
set_option maxRecDepth 20000 in
theorem c_isStep (hX : P2 S A B g tx L g tx2 L2) : Ct yL_isStep cL_isStep 9 (some .boolean) 10 80 24000 [.ref (A 0), .ref (B 0), .int x, .int y] S (kIS 1 (fun T => LI T A B)) := by
  have ok := hX.oa.1.1
  have hu13 := upF_b x (n := 13) (by decide)
  refine Ct.ofJ (by decide +kernel) (Nat.le_of_ble_eq_true rfl) ?_
  refine J_L (L1 := [some (.ref (A 0)), some (.ref (B 0)), some (.int x), some (.int y), none, none, none, none, none]) rfl ?_
  refine J_iload_n (pc1 := 1) rfl (i := 2) rfl dL_isStep_0 rfl ?_
  refine J_iconst (pc1 := 2) dL_isStep_1 rfl ?_
  refine J_ishr (pc1 := 3) dL_isStep_2 rfl ?_
  refine J_istore (pc1 := 5) (L1 := [some (.ref (A 0)), some (.ref (B 0)), some (.int x), some (.int y), some (.int (x >>> ((iI 4) &&& 31))), none, none, none, none]) dL_isStep_3 rfl (by decide) rfl rfl ?_
  refine J_iload_n (pc1 := 6) rfl (i := 2) rfl dL_isStep_5 rfl ?_
  refine J_bipush (pc1 := 8) (by decide) dL_isStep_6 rfl ?_
  refine J_callSI (pc1 := 11) (As := [.int x, .int (iI 13)]) gs_L_17 yv_L_up ((c_L_upZ (x := x) (n := 13) (z := upF x 13) ⟨by decide, by decide⟩ (rfl))) dL_isStep_8 rfl rfl rfl (by omega) (by decide) (by omega) (by omega) (Nat.le_of_ble_eq_true rfl) ?_
  rcases (show upF x 13 = 0 ∨ upF x 13 = 1 ∨ upF x 13 = 2 ∨ upF x 13 = 3 ∨ upF x 13 = 4 ∨ upF x 13 = 5 ∨ upF x 13 = 6 ∨ (upF x 13 < 0 ∨ 6 < upF x 13) by omega) with hs1 | hs1 | hs1 | hs1 | hs1 | hs1 | hs1 | hs1
  · refine J_tableIn (tgt := 52) (by omega) (by omega) dL_isStep_11 (by omega) (by omega) (by rw [hs1]; rfl) rfl ?_
    have u := upF_b (x >>> (iI 4 &&& 31)) (n := 4) (by decide)
    rcases (show upF (x >>> (iI 4 &&& 31)) 4 = 0 ∨ upF (x >>> (iI 4 &&& 31)) 4 = 1 ∨ upF (x >>> (iI 4 &&& 31)) 4 = 2 ∨ upF (x >>> (iI 4 &&& 31)) 4 = 3 by omega) with k | k | k | k
    · exact st_set0 hX k
    · exact st_set1 hX k
    · exact st_set2 hX k
    · exact st_set3 hX k
  · refine J_tableIn (tgt := 154) (by omega) (by omega) dL_isStep_11 (by omega) (by omega) (by rw [hs1]; rfl) rfl ?_
    exact st_begin hX
  · refine J_tableIn (tgt := 154) (by omega) (by omega) dL_isStep_11 (by omega) (by omega) (by rw [hs1]; rfl) rfl ?_
    exact st_begin hX
  · refine J_tableIn (tgt := 241) (by omega) (by omega) dL_isStep_11 (by omega) (by omega) (by rw [hs1]; rfl) rfl ?_
    rcases winE_b (g.1 0) (g.1 4) with k | k | k
    · exact st_playX0 hX k
    · exact st_playX1 hX k
    · rcases ok.2.2.2.2.2.1 with k5 | k5
      · exact st_play0 hX k k5
      · exact st_play1 hX k k5
  · refine J_tableIn (tgt := 395) (by omega) (by omega) dL_isStep_11 (by omega) (by omega) (by rw [hs1]; rfl) rfl ?_
    have u := upF_b (x >>> (iI 4 &&& 31)) (n := 2) (by decide)
    have u2 := upF_b y (n := 2) (by decide)
    rcases (show upF y 2 = 0 ∨ upF y 2 = 1 by omega) with ky | ky
    · rcases (show upF (x >>> (iI 4 &&& 31)) 2 = 0 ∨ upF (x >>> (iI 4 &&& 31)) 2 = 1 by omega) with kz | kz
      · exact st_save0 hX ky kz
      · exact st_save1 hX ky kz
    · rcases (show upF (x >>> (iI 4 &&& 31)) 2 = 0 ∨ upF (x >>> (iI 4 &&& 31)) 2 = 1 by omega) with kz | kz
      · by_cases kb : g.2.2.2.1 = 1
        · exact st_restore0 hX ky kz kb
        · exact st_restore0X hX ky kz kb
      · by_cases kb : g.2.2.2.2.1 = 1
        · exact st_restore1 hX ky kz kb
        · exact st_restore1X hX ky kz kb
  · refine J_tableIn (tgt := 463) (by omega) (by omega) dL_isStep_11 (by omega) (by omega) (by rw [hs1]; rfl) rfl ?_
    by_cases kn : g.2.2.2.2.2.1 = 0
    · exact st_undoX hX kn
    · exact st_undo hX (by omega)
  · refine J_tableIn (tgt := 489) (by omega) (by omega) dL_isStep_11 (by omega) (by omega) (by rw [hs1]; rfl) rfl ?_
    exact st_ask hX
  · refine J_tableOut (tgt := 552) (by omega) (by omega) dL_isStep_11 hs1 rfl ?_
    have u1 := upF_b y (n := 7) (by decide)
    have u2 := upF_b (y >>> (iI 4 &&& 31)) (n := 7) (by decide)
    obtain ⟨v, hv⟩ : ∃ v : Nat, upF y 7 = (v : Int) := ⟨(upF y 7).toNat, by omega⟩
    obtain ⟨u, hu⟩ : ∃ u : Nat, upF (y >>> (iI 4 &&& 31)) 7 = (u : Int) := ⟨(upF (y >>> (iI 4 &&& 31)) 7).toNat, by omega⟩
    have hv6 : v ≤ 6 := by omega
    have hu6 : u ≤ 6 := by omega
    rcases winE_b (g.1 0) (g.1 4) with k | k | k
    · exact st_roundX0 hX hv hu hv6 hu6 k
    · exact st_roundX1 hX hv hu hv6 hu6 k
    · rcases ok.2.2.2.2.2.1 with k5 | k5
      · exact st_round0 hX hv hu hv6 hu6 k k5
      · exact st_round1 hX hv hu hv6 hu6 k k5
end ST
