/-! 25.small: the law's small methods -/
def upA (x : Int32) : Int := (x &&& 2147483647).toInt
def upF (x : Int32) (n : Int) : Int := upA x % n
theorem upA_b (x : Int32) : 0 ≤ upA x ∧ upA x < 2147483648 := by
  refine ⟨?_, Int32.toInt_lt _⟩
  have h : (x &&& 2147483647).toBitVec.msb = false := by
    rw [Int32.toBitVec_and, BitVec.msb_and, show (2147483647 : Int32).toBitVec.msb = false from rfl, Bool.and_false]
  show 0 ≤ (x &&& 2147483647).toBitVec.toInt
  rw [BitVec.toInt_eq_msb_cond, h]
  exact Int.natCast_nonneg _
theorem upF_b (x : Int32) {n : Int} (hn : 0 < n) : 0 ≤ upF x n ∧ upF x n < n := ⟨Int.emod_nonneg _ (by omega), Int.emod_lt_of_pos _ hn⟩
theorem c_L_up {S : pS} {x : Int32} {n : Int} (hn : 0 < n ∧ n < 100) : Ct yL_up cL_up 2 (some .int) 0 0 0 [.int x, .int (iI n)] S (kI (upF x n) S) := by
  refine Ct.ofJ (by decide +kernel) (Nat.le_of_ble_eq_true rfl) ?_
  refine J_L (L1 := [some (.int x), some (.int (iI n))]) rfl ?_
  refine J_iload_n (pc1 := 1) rfl (i := 0) rfl dL_up_0 rfl ?_
  refine J_ldc (pc1 := 3) lk_L_8 dL_up_1 rfl ?_
  refine J_iand (pc1 := 4) dL_up_3 rfl ?_
  refine J_iload_n (pc1 := 5) rfl (i := 1) rfl dL_up_4 rfl ?_
  refine J_st (st1 := [.int (iI n), .int (iI (upA x))]) (by unfold upA; rw [iI_of]) ?_
  refine J_irem (pc1 := 6) (upA_b x).1 (upA_b x).2 hn.1 (by omega) dL_up_5 rfl ?_
  exact J_iret rfl rfl dL_up_6 (Nat.le_refl _) (Nat.le_refl _) (kI_mk rfl)
def bgF (f : Int → Int) (p : Int) : Int := if p = 0 then f 9 else f 10
def pdF (f : Int → Int) (p : Int) : Int := if p = 0 then f 11 else f 12
def tnF (f : Int → Int) (p : Int) : Int := if p = 0 then f 13 else f 14
def wgF (f : Int → Int) (p : Int) : Int := if p = 0 then f 15 else f 16
section PZ
variable {f : Int → Int} {p : Int} {n l : Nat}
theorem pz0 (hp : p = 0 ∨ p = 1) : plA f p 0 = hoF f p := (if_neg (fun z => z hp)).trans rfl
theorem pz1 (hp : p = 0 ∨ p = 1) : plA f p 1 = moF f p := (if_neg (fun z => z hp)).trans rfl
theorem pz2 (hp : p = 0 ∨ p = 1) : plA f p 2 = bgF f p := (if_neg (fun z => z hp)).trans rfl
theorem pz3 (hp : p = 0 ∨ p = 1) : plA f p 3 = pdF f p := (if_neg (fun z => z hp)).trans rfl
theorem pz4 (hp : p = 0 ∨ p = 1) : plA f p 4 = tnF f p := (if_neg (fun z => z hp)).trans rfl
theorem pz5 (hp : p = 0 ∨ p = 1) : plA f p 5 = wgF f p := (if_neg (fun z => z hp)).trans rfl
theorem pz6 (hp : p = 0 ∨ p = 1) : plA f p 6 = tmF f p := (if_neg (fun z => z hp)).trans rfl
theorem cz4 : cnA f n l 4 = f 4 := rfl
theorem cz5 (hw : winF f = -1006) : cnA f n l 5 = f 5 := by
  show (if ¬ winF f = -1006 then (-1006 : Int) else f 5) = f 5
  exact if_neg (fun z => z hw)
theorem cz5x (hw : ¬ winF f = -1006) : cnA f n l 5 = -1006 := by
  show (if ¬ winF f = -1006 then (-1006 : Int) else f 5) = -1006
  exact if_pos hw
theorem cz6 : cnA f n l 6 = f 6 := rfl
theorem cz7 : cnA f n l 7 = winF f := rfl
theorem cz8 : cnA f n l 8 = f 17 := rfl
theorem cz9 : cnA f n l 9 = f 15 + f 16 := rfl
theorem cz11 : cnA f n l 11 = (n : Int) := rfl
theorem cz0 : cnA f n l 0 = f 0 := rfl
theorem cz1 : cnA f n l 1 = f 1 := rfl
theorem cz2 : cnA f n l 2 = f 2 := rfl
theorem cz3 : cnA f n l 3 = f 3 := rfl
theorem czW {w : Int} (h : 0 ≤ w ∧ w ≤ 3) : cnA f n l w = f w := if_pos h
end PZ
theorem iN_l {v : Nat} (h : v < 2147483648) : (iI (v : Int)).toInt64 = lN v := by
  rw [← nI_iI]
  exact nI_l h
/-- a new game -/
def isN (f : Int → Int) : Prop := f 4 = 0 ∧ f 5 = 0 ∧ f 6 = 0 ∧ winF f = -1006 ∧ f 17 = 0 ∧ f 7 = f 9 ∧ f 8 = f 10 ∧ f 11 = 0 ∧ f 12 = 0 ∧ f 13 = 0 ∧ f 14 = 0
theorem isN_new {g : Int → Int} (h : 1 ≤ g 0) : isN (newF g) := by
  have a0 : newF g 0 = g 0 := rfl
  have a4 : newF g 4 = 0 := rfl
  refine ⟨rfl, rfl, rfl, ?_, rfl, rfl, rfl, rfl, rfl, rfl, rfl⟩
  show winE (newF g 0) (newF g 4) = -1006
  rw [a0, a4]
  unfold winE
  rw [if_neg (by omega), if_neg (by omega)]
set_option maxHeartbeats 1000000 in
set_option maxRecDepth 20000 in
theorem m_isNew {g : GS} {tx : Int → Int} {L : Nat} (hN : isN g.1) : MC yL_isNew cL_isNew 3 (some .boolean) 9 32 10424 [] g tx L 1 g tx L := by
  intro A S hX
  refine Ct.ofJ (by decide +kernel) (Nat.le_of_ble_eq_true rfl) ?_
  refine J_L (L1 := [some (.ref (A 0)), none, none]) rfl ?_
  refine J_aload_n (pc1 := 1) rfl (i := 0) rfl dL_isNew_0 rfl ?_
  refine J_iconst (pc1 := 2) dL_isNew_1 rfl ?_
  refine J_mX (pc1 := 5) gv_L_23 yv_X9_count hX (m_cn (w := 4) (z := 0) (by decide) (hN.1)) dL_isNew_2 rfl rfl rfl (by omega) (by decide) (by omega) (by omega) (Nat.le_of_ble_eq_true rfl) (fun S1 h1 => ?_)
  refine J_if_ne (pc1 := 8) (tgt := 50) (by decide) (by decide) dL_isNew_5 rfl rfl (fun hc1 => ?_) (fun hc1 => ?_)
  · exact absurd hc1 (by decide)
  · refine J_aload_n (pc1 := 9) rfl (i := 0) rfl dL_isNew_8 rfl ?_
    refine J_iconst (pc1 := 10) dL_isNew_9 rfl ?_
    refine J_mX (pc1 := 13) gv_L_23 yv_X9_count h1 (m_cn (w := 5) (z := 0) (by decide) ((cz5 hN.2.2.2.1).trans hN.2.1)) dL_isNew_10 rfl rfl rfl (by omega) (by decide) (by omega) (by omega) (Nat.le_of_ble_eq_true rfl) (fun S2 h2 => ?_)
    refine J_if_ne (pc1 := 16) (tgt := 50) (by decide) (by decide) dL_isNew_13 rfl rfl (fun hc2 => ?_) (fun hc2 => ?_)
    · exact absurd hc2 (by decide)
    · refine J_aload_n (pc1 := 17) rfl (i := 0) rfl dL_isNew_16 rfl ?_
      refine J_bipush (pc1 := 19) (by decide) dL_isNew_17 rfl ?_
      refine J_mX (pc1 := 22) gv_L_23 yv_X9_count h2 (m_cn (w := 6) (z := 0) (by decide) (hN.2.2.1)) dL_isNew_19 rfl rfl rfl (by omega) (by decide) (by omega) (by omega) (Nat.le_of_ble_eq_true rfl) (fun S3 h3 => ?_)
      refine J_if_ne (pc1 := 25) (tgt := 50) (by decide) (by decide) dL_isNew_22 rfl rfl (fun hc3 => ?_) (fun hc3 => ?_)
      · exact absurd hc3 (by decide)
      · refine J_aload_n (pc1 := 26) rfl (i := 0) rfl dL_isNew_25 rfl ?_
        refine J_bipush (pc1 := 28) (by decide) dL_isNew_26 rfl ?_
        refine J_mX (pc1 := 31) gv_L_23 yv_X9_count h3 (m_cn (w := 7) (z := (-1006)) (by decide) (hN.2.2.2.1)) dL_isNew_28 rfl rfl rfl (by omega) (by decide) (by omega) (by omega) (Nat.le_of_ble_eq_true rfl) (fun S4 h4 => ?_)
        refine J_sipush (pc1 := 34) (by decide) dL_isNew_31 rfl ?_
        refine J_neS (pc1 := 37) (tgt := 50) dL_isNew_34 rfl rfl (rfl) ?_
        refine J_aload_n (pc1 := 38) rfl (i := 0) rfl dL_isNew_37 rfl ?_
        refine J_bipush (pc1 := 40) (by decide) dL_isNew_38 rfl ?_
        refine J_mX (pc1 := 43) gv_L_23 yv_X9_count h4 (m_cn (w := 8) (z := 0) (by decide) (hN.2.2.2.2.1)) dL_isNew_40 rfl rfl rfl (by omega) (by decide) (by omega) (by omega) (Nat.le_of_ble_eq_true rfl) (fun S5 h5 => ?_)
        refine J_if_ne (pc1 := 46) (tgt := 50) (by decide) (by decide) dL_isNew_43 rfl rfl (fun hc4 => ?_) (fun hc4 => ?_)
        · exact absurd hc4 (by decide)
        · refine J_iconst (pc1 := 47) dL_isNew_46 rfl ?_
          refine J_goto (tgt := 51) dL_isNew_47 rfl ?_
          refine J_istore_n (pc1 := 52) (L1 := [some (.ref (A 0)), some (.int (iI 1)), none]) rfl (i := 1) dL_isNew_51 rfl (by decide) rfl rfl ?_
          refine J_iconst (pc1 := 53) dL_isNew_52 rfl ?_
          refine J_istore_n (pc1 := 54) (L1 := [some (.ref (A 0)), some (.int (iI 1)), some (.int (iI 0))]) rfl (i := 2) dL_isNew_53 rfl (by decide) rfl rfl ?_
          refine J_iload_n (pc1 := 55) rfl (i := 2) rfl dL_isNew_54 rfl ?_
          refine J_iconst (pc1 := 56) dL_isNew_55 rfl ?_
          refine J_icmp_ge (pc1 := 59) (tgt := 108) (by decide) (by decide) (by decide) (by decide) dL_isNew_56 rfl rfl (fun hc5 => ?_) (fun hc5 => ?_)
          · exact absurd hc5 (by decide)
          · refine J_iload_n (pc1 := 60) rfl (i := 1) rfl dL_isNew_59 rfl ?_
            refine J_if_eq (pc1 := 63) (tgt := 100) (by decide) (by decide) dL_isNew_60 rfl rfl (fun hc6 => ?_) (fun hc6 => ?_)
            · exact absurd hc6 (by decide)
            · refine J_aload_n (pc1 := 64) rfl (i := 0) rfl dL_isNew_63 rfl ?_
              refine J_iload_n (pc1 := 65) rfl (i := 2) rfl dL_isNew_64 rfl ?_
              refine J_iconst (pc1 := 66) dL_isNew_65 rfl ?_
              refine J_mX (pc1 := 69) gv_L_37 yv_X9_player h5 (m_pl (p := 0) (w := 0) (z := g.1 7) (Or.inl rfl) (by decide) (rfl)) dL_isNew_66 rfl rfl rfl (by omega) (by decide) (by omega) (by omega) (Nat.le_of_ble_eq_true rfl) (fun S6 h6 => ?_)
              refine J_aload_n (pc1 := 70) rfl (i := 0) rfl dL_isNew_69 rfl ?_
              refine J_iload_n (pc1 := 71) rfl (i := 2) rfl dL_isNew_70 rfl ?_
              refine J_iconst (pc1 := 72) dL_isNew_71 rfl ?_
              refine J_mX (pc1 := 75) gv_L_37 yv_X9_player h6 (m_pl (p := 0) (w := 2) (z := g.1 9) (Or.inl rfl) (by decide) (rfl)) dL_isNew_72 rfl rfl rfl (by omega) (by decide) (by omega) (by omega) (Nat.le_of_ble_eq_true rfl) (fun S7 h7 => ?_)
              refine J_neS (pc1 := 78) (tgt := 100) dL_isNew_75 rfl rfl (hN.2.2.2.2.2.1) ?_
              refine J_aload_n (pc1 := 79) rfl (i := 0) rfl dL_isNew_78 rfl ?_
              refine J_iload_n (pc1 := 80) rfl (i := 2) rfl dL_isNew_79 rfl ?_
              refine J_iconst (pc1 := 81) dL_isNew_80 rfl ?_
              refine J_mX (pc1 := 84) gv_L_37 yv_X9_player h7 (m_pl (p := 0) (w := 3) (z := 0) (Or.inl rfl) (by decide) (hN.2.2.2.2.2.2.2.1)) dL_isNew_81 rfl rfl rfl (by omega) (by decide) (by omega) (by omega) (Nat.le_of_ble_eq_true rfl) (fun S8 h8 => ?_)
              refine J_if_ne (pc1 := 87) (tgt := 100) (by decide) (by decide) dL_isNew_84 rfl rfl (fun hc7 => ?_) (fun hc7 => ?_)
              · exact absurd hc7 (by decide)
              · refine J_aload_n (pc1 := 88) rfl (i := 0) rfl dL_isNew_87 rfl ?_
                refine J_iload_n (pc1 := 89) rfl (i := 2) rfl dL_isNew_88 rfl ?_
                refine J_iconst (pc1 := 90) dL_isNew_89 rfl ?_
                refine J_mX (pc1 := 93) gv_L_37 yv_X9_player h8 (m_pl (p := 0) (w := 4) (z := 0) (Or.inl rfl) (by decide) (hN.2.2.2.2.2.2.2.2.2.1)) dL_isNew_90 rfl rfl rfl (by omega) (by decide) (by omega) (by omega) (Nat.le_of_ble_eq_true rfl) (fun S9 h9 => ?_)
                refine J_if_ne (pc1 := 96) (tgt := 100) (by decide) (by decide) dL_isNew_93 rfl rfl (fun hc8 => ?_) (fun hc8 => ?_)
                · exact absurd hc8 (by decide)
                · refine J_iconst (pc1 := 97) dL_isNew_96 rfl ?_
                  refine J_goto (tgt := 101) dL_isNew_97 rfl ?_
                  refine J_istore_n (pc1 := 102) (L1 := [some (.ref (A 0)), some (.int (iI 1)), some (.int (iI 0))]) rfl (i := 1) dL_isNew_101 rfl (by decide) rfl rfl ?_
                  refine J_iinc (pc1 := 105) (L1 := [some (.ref (A 0)), some (.int (iI 1)), some (.int (iI 1))]) dL_isNew_102 rfl rfl (by decide) rfl rfl ?_
                  refine J_goto (tgt := 54) dL_isNew_105 rfl ?_
                  refine J_iload_n (pc1 := 55) rfl (i := 2) rfl dL_isNew_54 rfl ?_
                  refine J_iconst (pc1 := 56) dL_isNew_55 rfl ?_
                  refine J_icmp_ge (pc1 := 59) (tgt := 108) (by decide) (by decide) (by decide) (by decide) dL_isNew_56 rfl rfl (fun hc9 => ?_) (fun hc9 => ?_)
                  · exact absurd hc9 (by decide)
                  · refine J_iload_n (pc1 := 60) rfl (i := 1) rfl dL_isNew_59 rfl ?_
                    refine J_if_eq (pc1 := 63) (tgt := 100) (by decide) (by decide) dL_isNew_60 rfl rfl (fun hc10 => ?_) (fun hc10 => ?_)
                    · exact absurd hc10 (by decide)
                    · refine J_aload_n (pc1 := 64) rfl (i := 0) rfl dL_isNew_63 rfl ?_
                      refine J_iload_n (pc1 := 65) rfl (i := 2) rfl dL_isNew_64 rfl ?_
                      refine J_iconst (pc1 := 66) dL_isNew_65 rfl ?_
                      refine J_mX (pc1 := 69) gv_L_37 yv_X9_player h9 (m_pl (p := 1) (w := 0) (z := g.1 8) (Or.inr rfl) (by decide) (rfl)) dL_isNew_66 rfl rfl rfl (by omega) (by decide) (by omega) (by omega) (Nat.le_of_ble_eq_true rfl) (fun S10 h10 => ?_)
                      refine J_aload_n (pc1 := 70) rfl (i := 0) rfl dL_isNew_69 rfl ?_
                      refine J_iload_n (pc1 := 71) rfl (i := 2) rfl dL_isNew_70 rfl ?_
                      refine J_iconst (pc1 := 72) dL_isNew_71 rfl ?_
                      refine J_mX (pc1 := 75) gv_L_37 yv_X9_player h10 (m_pl (p := 1) (w := 2) (z := g.1 10) (Or.inr rfl) (by decide) (rfl)) dL_isNew_72 rfl rfl rfl (by omega) (by decide) (by omega) (by omega) (Nat.le_of_ble_eq_true rfl) (fun S11 h11 => ?_)
                      refine J_neS (pc1 := 78) (tgt := 100) dL_isNew_75 rfl rfl (hN.2.2.2.2.2.2.1) ?_
                      refine J_aload_n (pc1 := 79) rfl (i := 0) rfl dL_isNew_78 rfl ?_
                      refine J_iload_n (pc1 := 80) rfl (i := 2) rfl dL_isNew_79 rfl ?_
                      refine J_iconst (pc1 := 81) dL_isNew_80 rfl ?_
                      refine J_mX (pc1 := 84) gv_L_37 yv_X9_player h11 (m_pl (p := 1) (w := 3) (z := 0) (Or.inr rfl) (by decide) (hN.2.2.2.2.2.2.2.2.1)) dL_isNew_81 rfl rfl rfl (by omega) (by decide) (by omega) (by omega) (Nat.le_of_ble_eq_true rfl) (fun S12 h12 => ?_)
                      refine J_if_ne (pc1 := 87) (tgt := 100) (by decide) (by decide) dL_isNew_84 rfl rfl (fun hc11 => ?_) (fun hc11 => ?_)
                      · exact absurd hc11 (by decide)
                      · refine J_aload_n (pc1 := 88) rfl (i := 0) rfl dL_isNew_87 rfl ?_
                        refine J_iload_n (pc1 := 89) rfl (i := 2) rfl dL_isNew_88 rfl ?_
                        refine J_iconst (pc1 := 90) dL_isNew_89 rfl ?_
                        refine J_mX (pc1 := 93) gv_L_37 yv_X9_player h12 (m_pl (p := 1) (w := 4) (z := 0) (Or.inr rfl) (by decide) (hN.2.2.2.2.2.2.2.2.2.2)) dL_isNew_90 rfl rfl rfl (by omega) (by decide) (by omega) (by omega) (Nat.le_of_ble_eq_true rfl) (fun S13 h13 => ?_)
                        refine J_if_ne (pc1 := 96) (tgt := 100) (by decide) (by decide) dL_isNew_93 rfl rfl (fun hc12 => ?_) (fun hc12 => ?_)
                        · exact absurd hc12 (by decide)
                        · refine J_iconst (pc1 := 97) dL_isNew_96 rfl ?_
                          refine J_goto (tgt := 101) dL_isNew_97 rfl ?_
                          refine J_istore_n (pc1 := 102) (L1 := [some (.ref (A 0)), some (.int (iI 1)), some (.int (iI 1))]) rfl (i := 1) dL_isNew_101 rfl (by decide) rfl rfl ?_
                          refine J_iinc (pc1 := 105) (L1 := [some (.ref (A 0)), some (.int (iI 1)), some (.int (iI 2))]) dL_isNew_102 rfl rfl (by decide) rfl rfl ?_
                          refine J_goto (tgt := 54) dL_isNew_105 rfl ?_
                          refine J_iload_n (pc1 := 55) rfl (i := 2) rfl dL_isNew_54 rfl ?_
                          refine J_iconst (pc1 := 56) dL_isNew_55 rfl ?_
                          refine J_icmp_ge (pc1 := 59) (tgt := 108) (by decide) (by decide) (by decide) (by decide) dL_isNew_56 rfl rfl (fun hc13 => ?_) (fun hc13 => ?_)
                          · refine J_iload_n (pc1 := 109) rfl (i := 1) rfl dL_isNew_108 rfl ?_
                            exact J_iret rfl rfl dL_isNew_109 (by omega) (by omega) (kIS_mk rfl h13)
                          · exact absurd hc13 (by decide)
set_option maxHeartbeats 1000000 in
set_option maxRecDepth 20000 in
theorem m_number {g : GS} {tx : Int → Int} {L v : Nat} (hv : v ≤ 6) (hL : L < 60) : MC yL_number cL_number 2 (some .boolean) 2 0 0 [.int (iI (v : Int))] g tx L 1 g (apF tx L 1 (48 + v) 1) (L + 1) := by
  intro A S hX
  refine Ct.ofJ (by decide +kernel) (Nat.le_of_ble_eq_true rfl) ?_
  refine J_L (L1 := [some (.ref (A 0)), some (.int (iI (v : Int)))]) rfl ?_
  refine J_iload_n (pc1 := 1) rfl (i := 1) rfl dL_number_0 rfl ?_
  refine J_bipush (pc1 := 3) (by decide) dL_number_1 rfl ?_
  refine J_icmp_lt (pc1 := 6) (tgt := 16) (by omega) (by omega) (by decide) (by decide) dL_number_3 rfl rfl (fun hc1 => ?_) (fun hc1 => ?_)
  · refine J_aload_n (pc1 := 17) rfl (i := 0) rfl dL_number_16 rfl ?_
    refine J_bipush (pc1 := 19) (by decide) dL_number_17 rfl ?_
    refine J_iload_n (pc1 := 20) rfl (i := 1) rfl dL_number_19 rfl ?_
    refine J_bipush (pc1 := 22) (by decide) dL_number_20 rfl ?_
    refine J_irem (pc1 := 23) (by omega) (by omega) (by omega) (by omega) dL_number_22 rfl ?_
    refine J_iadd (pc1 := 24) dL_number_23 rfl ?_
    refine J_i2l (pc1 := 25) dL_number_24 rfl ?_
    refine J_st (st1 := [.long (lN (48 + v)), .ref (A 0)]) (by rw [show (48 : Int) + (v : Int) % 10 = ((48 + v : Nat) : Int) by omega, iN_l (by omega)]) ?_
    refine J_mX (pc1 := 28) gv_L_11 yv_X9_put hX (m_put (x := 48 + v) (by omega) hL) dL_number_25 rfl rfl rfl (by omega) (by decide) (by omega) (by omega) (Nat.le_of_ble_eq_true rfl) (fun S1 h1 => ?_)
    refine J_if_le (pc1 := 31) (tgt := 35) (by omega) (by omega) dL_number_28 rfl rfl (fun hc2 => ?_) (fun hc2 => ?_)
    · exact absurd hc2 (by omega)
    · refine J_iconst (pc1 := 32) dL_number_31 rfl ?_
      refine J_goto (tgt := 36) dL_number_32 rfl ?_
      exact J_iret rfl rfl dL_number_36 (by omega) (by omega) (kIS_mk rfl h1)
  · exact absurd (show (v : Int) < 10 by omega) hc1
/-- the pad of one round -/
def tx3 (tx : Int → Int) (b a : Nat) : Int → Int := apF (apF (apF tx 0 1 (48 + b) 1) 1 1 58 1) 2 1 (48 + a) 1
theorem ap_at (tx : Int → Int) {L x : Nat} (hx : x < 256) {k : Int} (hk : k = L) : apF tx L 1 x 1 k = x := by
  unfold apF
  rw [if_pos (by omega), show (k - (L : Int)).toNat = 0 by omega]
  show ((x / 1 % 256 : Nat) : Int) = x
  omega
theorem ap_no (tx : Int → Int) {L x : Nat} {k : Int} (hk : ¬ k = L) : apF tx L 1 x 1 k = tx k := by
  unfold apF
  exact if_neg (by omega)
theorem tx3_v (tx : Int → Int) {b a : Nat} (hb : b ≤ 6) (ha : a ≤ 6) : tx3 tx b a 0 = 48 + b ∧ tx3 tx b a 1 = 58 ∧ tx3 tx b a 2 = 48 + a := by
  unfold tx3
  refine ⟨?_, ?_, ?_⟩
  · rw [ap_no _ (by decide), ap_no _ (by decide), ap_at tx (L := 0) (x := 48 + b) (k := 0) (by omega) rfl]
    omega
  · rw [ap_no _ (by decide), ap_at _ (L := 1) (x := 58) (k := 1) (by decide) rfl]
    rfl
  · rw [ap_at _ (L := 2) (x := 48 + a) (k := 2) (by omega) rfl]
    omega
theorem tx3_R (tx : Int → Int) {b a : Nat} (hb : b ≤ 6) (ha : a ≤ 6) : Rd (tx3 tx b a) 3 0 [((b : Int), (a : Int))] := by
  obtain ⟨h0, h1, h2⟩ := tx3_v tx hb ha
  refine ⟨1, 3, Or.inl ⟨rfl, ?_, ?_⟩, by decide, h1, Or.inl ⟨rfl, ?_, ?_⟩, by decide, Or.inl ⟨rfl, rfl⟩⟩
  · show 48 ≤ tx3 tx b a 0 ∧ tx3 tx b a 0 ≤ 57
    omega
  · show (b : Int) = tx3 tx b a 0 - 48
    omega
  · show 48 ≤ tx3 tx b a 2 ∧ tx3 tx b a 2 ≤ 57
    omega
  · show (a : Int) = tx3 tx b a 2 - 48
    omega
theorem tx3_d (tx : Int → Int) {b a : Nat} (hb : b ≤ 6) (ha : a ≤ 6) : dfa (tx3 tx b a) 3 0 0 0 = -1006 := by
  obtain ⟨h0, h1, h2⟩ := tx3_v tx hb ha
  have n1 : ¬ cdF (tx3 tx b a 1) (if tx3 tx b a 0 = 49 ∧ (0 : Int) = 0 then 1 else 2) := by
    rw [h1]
    unfold cdF
    split <;> omega
  have d1 : ¬ (if tx3 tx b a 0 = 49 ∧ (0 : Int) = 0 then (1 : Int) else 2) = 0 := by split <;> decide
  have d2 : ¬ (if tx3 tx b a 2 = 49 ∧ (0 : Int) = 0 then (1 : Int) else 2) = 0 := by split <;> decide
  show @ite _ (cdF (tx3 tx b a 0) 0) (Classical.propDecidable _) (@ite _ (cdF (tx3 tx b a 1) (if tx3 tx b a 0 = 49 ∧ (0 : Int) = 0 then 1 else 2)) (Classical.propDecidable _) _ (if ¬ (if tx3 tx b a 0 = 49 ∧ (0 : Int) = 0 then (1 : Int) else 2) = 0 ∧ tx3 tx b a 1 = (if (0 : Int) = 1 then 44 else 58) then @ite _ (cdF (tx3 tx b a 2) 0) (Classical.propDecidable _) (if (1 : Int) = 1 ∧ ¬ (if tx3 tx b a 2 = 49 ∧ (0 : Int) = 0 then (1 : Int) else 2) = 0 then -1006 else 3) _ else 1)) _ = -1006
  rw [if_pos (show cdF (tx3 tx b a 0) 0 from Or.inl ⟨rfl, by omega, by omega⟩), if_neg n1, if_pos ⟨d1, h1⟩, if_pos (show cdF (tx3 tx b a 2) 0 from Or.inl ⟨rfl, by omega, by omega⟩), if_pos ⟨rfl, d2⟩]
