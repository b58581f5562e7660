/-! 34.mask: player, count, leastHours of the reference -/
theorem hoF_i {f : Int → Int} {p : Int} (hp : p = 0 ∨ p = 1) : hoF f p = f (7 + p) := by rcases hp with rfl | rfl <;> rfl
theorem ifp_i {f : Int → Int} {p : Int} (hp : p = 0 ∨ p = 1) {a b : Int} (e : b = a + 1) : (if p = 0 then f a else f b) = f (a + p) := by
  subst e
  rcases hp with rfl | rfl
  · rw [if_pos rfl, Int.add_zero]
  · rw [if_neg (by decide)]
theorem plA_0 (f : Int → Int) {p : Int} (hp : p = 0 ∨ p = 1) : plA f p 0 = hoF f p := by unfold plA; rw [if_neg (fun z => z hp), if_pos rfl]
theorem plA_1 (f : Int → Int) {p : Int} (hp : p = 0 ∨ p = 1) : plA f p 1 = moF f p := by unfold plA; rw [if_neg (fun z => z hp), if_neg (by decide), if_pos rfl]
theorem plA_2 (f : Int → Int) {p : Int} (hp : p = 0 ∨ p = 1) : plA f p 2 = (if p = 0 then f 9 else f 10) := by unfold plA; rw [if_neg (fun z => z hp), if_neg (by decide), if_neg (by decide), if_pos rfl]
theorem plA_3 (f : Int → Int) {p : Int} (hp : p = 0 ∨ p = 1) : plA f p 3 = (if p = 0 then f 11 else f 12) := by unfold plA; rw [if_neg (fun z => z hp), if_neg (by decide), if_neg (by decide), if_neg (by decide), if_pos rfl]
theorem plA_4 (f : Int → Int) {p : Int} (hp : p = 0 ∨ p = 1) : plA f p 4 = (if p = 0 then f 13 else f 14) := by unfold plA; rw [if_neg (fun z => z hp), if_neg (by decide), if_neg (by decide), if_neg (by decide), if_neg (by decide), if_pos rfl]
theorem plA_5 (f : Int → Int) {p : Int} (hp : p = 0 ∨ p = 1) : plA f p 5 = (if p = 0 then f 15 else f 16) := by unfold plA; rw [if_neg (fun z => z hp), if_neg (by decide), if_neg (by decide), if_neg (by decide), if_neg (by decide), if_neg (by decide), if_pos rfl]
theorem plA_6 (f : Int → Int) {p : Int} (hp : p = 0 ∨ p = 1) : plA f p 6 = (if twT f p (moF f p) < 9 then twT f p (moF f p) else -1006) := by unfold plA; rw [if_neg (fun z => z hp), if_neg (by decide), if_neg (by decide), if_neg (by decide), if_neg (by decide), if_neg (by decide), if_neg (by decide), if_pos rfl]
theorem plA_o (f : Int → Int) {p w : Int} (hp : p = 0 ∨ p = 1) (h : w < 0 ∨ 6 < w) : plA f p w = -1002 := by unfold plA; rw [if_neg (fun z => z hp), if_neg (by omega), if_neg (by omega), if_neg (by omega), if_neg (by omega), if_neg (by omega), if_neg (by omega), if_neg (by omega)]
theorem cnA_4 (f : Int → Int) (n L : Nat) : cnA f n L 4 = f 4 := by unfold cnA; rw [if_neg (by decide), if_pos rfl]
theorem cnA_5 (f : Int → Int) (n L : Nat) : cnA f n L 5 = (if ¬ winF f = -1006 then -1006 else f 5) := by unfold cnA; rw [if_neg (by decide), if_neg (by decide), if_pos rfl]
theorem cnA_6 (f : Int → Int) (n L : Nat) : cnA f n L 6 = f 6 := by unfold cnA; rw [if_neg (by decide), if_neg (by decide), if_neg (by decide), if_pos rfl]
theorem cnA_7 (f : Int → Int) (n L : Nat) : cnA f n L 7 = winF f := by unfold cnA; rw [if_neg (by decide), if_neg (by decide), if_neg (by decide), if_neg (by decide), if_pos rfl]
theorem cnA_8 (f : Int → Int) (n L : Nat) : cnA f n L 8 = f 17 := by unfold cnA; rw [if_neg (by decide), if_neg (by decide), if_neg (by decide), if_neg (by decide), if_neg (by decide), if_pos rfl]
theorem cnA_9 (f : Int → Int) (n L : Nat) : cnA f n L 9 = f 15 + f 16 := by unfold cnA; rw [if_neg (by decide), if_neg (by decide), if_neg (by decide), if_neg (by decide), if_neg (by decide), if_neg (by decide), if_pos rfl]
theorem cnA_10 (f : Int → Int) (n L : Nat) : cnA f n L 10 = (L : Int) := by unfold cnA; rw [if_neg (by decide), if_neg (by decide), if_neg (by decide), if_neg (by decide), if_neg (by decide), if_neg (by decide), if_neg (by decide), if_pos rfl]
theorem cnA_11 (f : Int → Int) (n L : Nat) : cnA f n L 11 = (n : Int) := by unfold cnA; rw [if_neg (by decide), if_neg (by decide), if_neg (by decide), if_neg (by decide), if_neg (by decide), if_neg (by decide), if_neg (by decide), if_neg (by decide), if_pos rfl]
theorem cnA_s (f : Int → Int) (n L : Nat) {w : Int} (h : 0 ≤ w ∧ w ≤ 3) : cnA f n L w = f w := if_pos h
theorem cnA_o (f : Int → Int) (n L : Nat) {w : Int} (h : w < 4 ∨ 11 < w) (h2 : ¬ (0 ≤ w ∧ w ≤ 3)) : cnA f n L w = -1002 := by unfold cnA; rw [if_neg h2, if_neg (by omega), if_neg (by omega), if_neg (by omega), if_neg (by omega), if_neg (by omega), if_neg (by omega), if_neg (by omega), if_neg (by omega)]
theorem rvT_s {x : Int} (hx : 0 ≤ x ∧ x ≤ 9) (h : x < 9) : rvT x = x := if_pos (by omega)
set_option maxHeartbeats 1000000 in
set_option maxRecDepth 20000 in
theorem c_X10_player {S : pS} {B : Nat → Nat} {f f1 f2 : Int → Int} {b0 b1 : Int} {n : Nat} {H : Nat → Int → Int} {tx : Int → Int} {L : Nat} (hM : MS S B f f1 f2 b0 b1 n H tx L) (ok : okX f f1 f2 b0 b1 n H) {p w : Int} (hp : -2147483648 ≤ p ∧ p < 2147483648) (hw0 : -2147483648 ≤ w ∧ w < 2147483648) : Ct yX10_player cX10_player 3 (Option.some FieldType.int) 8 0 0 [.ref (B 0), .int (iI p), .int (iI w)] S (kIS (plA f p w) (fun T => MS T B f f1 f2 b0 b1 n H tx L ∧ frM S T B)) := by
  have hM9 := hM
  obtain ⟨hs, sl, sv, ti, to, ik, kr, ks, sp, nu, rd, W, hH, hm0, hm1, hv0, hv1, hC⟩ := hM
  have okf := ok.1
  have hn6 := ok.2.2.2.2.2.1
  refine Ct.ofJ (by decide +kernel) (Nat.le_of_ble_eq_true rfl) ?_
  refine J_L (L1 := [some (.ref (B 0)), some (.int (iI p)), some (.int (iI w))]) rfl ?_
  refine J_iload_n (pc1 := 1) rfl (i := 1) rfl dX10_player_0 rfl ?_
  refine J_callSI (pc1 := 4) (As := [.int (iI p)]) gs_X10_125 yv_X10_isPlayer (c_X10_isPlayer (p := p) (by omega)) dX10_player_1 rfl rfl rfl (by omega) (by decide) (by omega) (by omega) (Nat.le_of_ble_eq_true rfl) ?_
  refine J_if_ne (pc1 := 7) (tgt := 11) (bC_lo _) (bC_hi _) dX10_player_4 rfl rfl (fun hc1 => ?_) (fun hc1 => ?_)
  · have hp : p = 0 ∨ p = 1 := bC_1 (by assumption)
    have tb := twT_b f p (moF f p)
    have tb2 := rvT_b tb
    have tb9 := rvT_9 tb
    refine J_iload_n (pc1 := 12) rfl (i := 2) rfl dX10_player_11 rfl ?_
    rcases (show w = 0 ∨ w = 1 ∨ w = 2 ∨ w = 3 ∨ w = 4 ∨ w = 5 ∨ w = 6 ∨ (w < 0 ∨ 6 < w) by omega) with hs2 | hs2 | hs2 | hs2 | hs2 | hs2 | hs2 | hs2
    · refine J_tableIn (tgt := 56) (by omega) (by omega) dX10_player_12 (by omega) (by omega) (by rw [hs2]; rfl) rfl ?_
      refine J_aload_n (pc1 := 57) rfl (i := 0) rfl dX10_player_56 rfl ?_
      refine J_get (pc1 := 60) (j := 0) inUX10 (ci := 10) rfl (by decide) lf_X10_7 dX10_player_57 rfl W.1 rfl ?_
      refine J_bipush (pc1 := 62) (by decide) dX10_player_60 rfl ?_
      refine J_iload_n (pc1 := 63) rfl (i := 1) rfl dX10_player_62 rfl ?_
      refine J_iadd (pc1 := 64) dX10_player_63 rfl ?_
      refine J_iald (pc1 := 65) dX10_player_64 rfl W.2.1 (by omega) (by omega) (by omega) ?_
      exact J_iret rfl rfl dX10_player_65 (Nat.le_refl _) (Nat.le_refl _) (⟨by rw [(by assumption : w = 0), plA_0 f hp, hoF_i hp], hM9, frM.rf⟩)
    · refine J_tableIn (tgt := 66) (by omega) (by omega) dX10_player_12 (by omega) (by omega) (by rw [hs2]; rfl) rfl ?_
      refine J_aload_n (pc1 := 67) rfl (i := 0) rfl dX10_player_66 rfl ?_
      refine J_iload_n (pc1 := 68) rfl (i := 1) rfl dX10_player_67 rfl ?_
      refine J_callVI (pc1 := 71) (As := [.int (iI p)]) gv_X10_50 yv_X10_most rfl (c_X10_most ⟨W.1, W.2.1, W.2.2.1, W.2.2.2.1, W.2.2.2.2.1, W.2.2.2.2.2.1, W.2.2.2.2.2.2.1, W.2.2.2.2.2.2.2⟩ (p := p) hp) dX10_player_68 rfl W.1 rfl rfl (by omega) (by decide) (by omega) (by omega) (Nat.le_of_ble_eq_true rfl) ?_
      exact J_iret rfl rfl dX10_player_71 (Nat.le_refl _) (Nat.le_refl _) (⟨by rw [(by assumption : w = 1), plA_1 f hp], hM9, frM.rf⟩)
    · refine J_tableIn (tgt := 72) (by omega) (by omega) dX10_player_12 (by omega) (by omega) (by rw [hs2]; rfl) rfl ?_
      refine J_aload_n (pc1 := 73) rfl (i := 0) rfl dX10_player_72 rfl ?_
      refine J_get (pc1 := 76) (j := 0) inUX10 (ci := 10) rfl (by decide) lf_X10_7 dX10_player_73 rfl W.1 rfl ?_
      refine J_bipush (pc1 := 78) (by decide) dX10_player_76 rfl ?_
      refine J_iload_n (pc1 := 79) rfl (i := 1) rfl dX10_player_78 rfl ?_
      refine J_iadd (pc1 := 80) dX10_player_79 rfl ?_
      refine J_iald (pc1 := 81) dX10_player_80 rfl W.2.1 (by omega) (by omega) (by omega) ?_
      exact J_iret rfl rfl dX10_player_81 (Nat.le_refl _) (Nat.le_refl _) (⟨by rw [(by assumption : w = 2), plA_2 f hp, ifp_i hp (by decide)], hM9, frM.rf⟩)
    · refine J_tableIn (tgt := 82) (by omega) (by omega) dX10_player_12 (by omega) (by omega) (by rw [hs2]; rfl) rfl ?_
      refine J_aload_n (pc1 := 83) rfl (i := 0) rfl dX10_player_82 rfl ?_
      refine J_get (pc1 := 86) (j := 0) inUX10 (ci := 10) rfl (by decide) lf_X10_7 dX10_player_83 rfl W.1 rfl ?_
      refine J_bipush (pc1 := 88) (by decide) dX10_player_86 rfl ?_
      refine J_iload_n (pc1 := 89) rfl (i := 1) rfl dX10_player_88 rfl ?_
      refine J_iadd (pc1 := 90) dX10_player_89 rfl ?_
      refine J_iald (pc1 := 91) dX10_player_90 rfl W.2.1 (by omega) (by omega) (by omega) ?_
      exact J_iret rfl rfl dX10_player_91 (Nat.le_refl _) (Nat.le_refl _) (⟨by rw [(by assumption : w = 3), plA_3 f hp, ifp_i hp (by decide)], hM9, frM.rf⟩)
    · refine J_tableIn (tgt := 92) (by omega) (by omega) dX10_player_12 (by omega) (by omega) (by rw [hs2]; rfl) rfl ?_
      refine J_aload_n (pc1 := 93) rfl (i := 0) rfl dX10_player_92 rfl ?_
      refine J_get (pc1 := 96) (j := 0) inUX10 (ci := 10) rfl (by decide) lf_X10_7 dX10_player_93 rfl W.1 rfl ?_
      refine J_bipush (pc1 := 98) (by decide) dX10_player_96 rfl ?_
      refine J_iload_n (pc1 := 99) rfl (i := 1) rfl dX10_player_98 rfl ?_
      refine J_iadd (pc1 := 100) dX10_player_99 rfl ?_
      refine J_iald (pc1 := 101) dX10_player_100 rfl W.2.1 (by omega) (by omega) (by omega) ?_
      exact J_iret rfl rfl dX10_player_101 (Nat.le_refl _) (Nat.le_refl _) (⟨by rw [(by assumption : w = 4), plA_4 f hp, ifp_i hp (by decide)], hM9, frM.rf⟩)
    · refine J_tableIn (tgt := 102) (by omega) (by omega) dX10_player_12 (by omega) (by omega) (by rw [hs2]; rfl) rfl ?_
      refine J_aload_n (pc1 := 103) rfl (i := 0) rfl dX10_player_102 rfl ?_
      refine J_get (pc1 := 106) (j := 0) inUX10 (ci := 10) rfl (by decide) lf_X10_7 dX10_player_103 rfl W.1 rfl ?_
      refine J_bipush (pc1 := 108) (by decide) dX10_player_106 rfl ?_
      refine J_iload_n (pc1 := 109) rfl (i := 1) rfl dX10_player_108 rfl ?_
      refine J_iadd (pc1 := 110) dX10_player_109 rfl ?_
      refine J_iald (pc1 := 111) dX10_player_110 rfl W.2.1 (by omega) (by omega) (by omega) ?_
      exact J_iret rfl rfl dX10_player_111 (Nat.le_refl _) (Nat.le_refl _) (⟨by rw [(by assumption : w = 5), plA_5 f hp, ifp_i hp (by decide)], hM9, frM.rf⟩)
    · refine J_tableIn (tgt := 112) (by omega) (by omega) dX10_player_12 (by omega) (by omega) (by rw [hs2]; rfl) rfl ?_
      refine J_aload_n (pc1 := 113) rfl (i := 0) rfl dX10_player_112 rfl ?_
      refine J_iload_n (pc1 := 114) rfl (i := 1) rfl dX10_player_113 rfl ?_
      refine J_callVIs (pc1 := 117) (As := [.int (iI p)]) gv_X10_129 yv_X10_timeOf rfl (c_X10_timeOf hM9 ok hp) dX10_player_114 rfl W.1 rfl rfl (by omega) (by decide) (by omega) (by omega) (Nat.le_of_ble_eq_true rfl) (fun T1 hT1 => ?_)
      obtain ⟨M1, r1⟩ := hT1
      obtain ⟨hs1, sl1, sv1, ti1, to1, ik1, kr1, ks1, sp1, nu1, rd1, W1, hH1, hm01, hm11, hv01, hv11, hC1⟩ := id M1
      refine J_bipush (pc1 := 119) (by decide) dX10_player_117 rfl ?_
      refine J_icmp_ne (pc1 := 122) (tgt := 128) (by omega) (by omega) (by decide) (by decide) dX10_player_119 rfl rfl (fun hc3 => ?_) (fun hc3 => ?_)
      · refine J_aload_n (pc1 := 129) rfl (i := 0) rfl dX10_player_128 rfl ?_
        refine J_iload_n (pc1 := 130) rfl (i := 1) rfl dX10_player_129 rfl ?_
        refine J_callVIs (pc1 := 133) (As := [.int (iI p)]) gv_X10_129 yv_X10_timeOf rfl (c_X10_timeOf M1 ok hp) dX10_player_130 rfl W1.1 rfl rfl (by omega) (by decide) (by omega) (by omega) (Nat.le_of_ble_eq_true rfl) (fun T2 hT2 => ?_)
        obtain ⟨M2, r2⟩ := hT2
        obtain ⟨hs2, sl2, sv2, ti2, to2, ik2, kr2, ks2, sp2, nu2, rd2, W2, hH2, hm02, hm12, hv02, hv12, hC2⟩ := id M2
        exact J_iret rfl rfl dX10_player_133 (Nat.le_refl _) (Nat.le_refl _) (⟨by rw [(by assumption : w = 6), plA_6 f hp, if_pos (by omega), show rvT (twT f p (moF f p)) = twT f p (moF f p) from rvT_s tb (by omega)], M2, frM.tr (r1) (r2)⟩)
      · refine J_sipush (pc1 := 125) (by decide) dX10_player_122 rfl ?_
        refine J_goto (tgt := 133) dX10_player_125 rfl ?_
        exact J_iret rfl rfl dX10_player_133 (Nat.le_refl _) (Nat.le_refl _) (⟨by rw [(by assumption : w = 6), plA_6 f hp, if_neg (by omega)], M1, r1⟩)
    · refine J_tableOut (tgt := 134) (by omega) (by omega) dX10_player_12 hs2 rfl ?_
      refine J_sipush (pc1 := 137) (by decide) dX10_player_134 rfl ?_
      exact J_iret rfl rfl dX10_player_137 (Nat.le_refl _) (Nat.le_refl _) (⟨by rw [plA_o f hp (by assumption)], hM9, frM.rf⟩)
  · refine J_sipush (pc1 := 10) (by decide) dX10_player_7 rfl ?_
    exact J_iret rfl rfl dX10_player_10 (Nat.le_refl _) (Nat.le_refl _) (⟨by rw [show plA f p w = -1001 from if_pos (bC_0 (by assumption))], hM9, frM.rf⟩)
set_option maxHeartbeats 1000000 in
set_option maxRecDepth 20000 in
theorem c_X10_count {S : pS} {B : Nat → Nat} {f f1 f2 : Int → Int} {b0 b1 : Int} {n : Nat} {H : Nat → Int → Int} {tx : Int → Int} {L : Nat} (hM : MS S B f f1 f2 b0 b1 n H tx L) (ok : okX f f1 f2 b0 b1 n H) {w : Int} (hw0 : -2147483648 ≤ w ∧ w < 2147483648) : Ct yX10_count cX10_count 2 (Option.some FieldType.int) 3 0 0 [.ref (B 0), .int (iI w)] S (kIS (cnA f n L w) (fun T => MS T B f f1 f2 b0 b1 n H tx L ∧ frM S T B)) := by
  have hM9 := hM
  obtain ⟨hs, sl, sv, ti, to, ik, kr, ks, sp, nu, rd, W, hH, hm0, hm1, hv0, hv1, hC⟩ := hM
  have okf := ok.1
  have hn6 := ok.2.2.2.2.2.1
  obtain ⟨o0, o1, o2, o3, o4, o5, o7, o9, o10, o12, o13, -⟩ := id okf
  refine Ct.ofJ (by decide +kernel) (Nat.le_of_ble_eq_true rfl) ?_
  refine J_L (L1 := [some (.ref (B 0)), some (.int (iI w))]) rfl ?_
  refine J_iload_n (pc1 := 1) rfl (i := 1) rfl dX10_count_0 rfl ?_
  rcases (show w = 4 ∨ w = 5 ∨ w = 6 ∨ w = 7 ∨ w = 8 ∨ w = 9 ∨ w = 10 ∨ w = 11 ∨ (w < 4 ∨ 11 < w) by omega) with hs1 | hs1 | hs1 | hs1 | hs1 | hs1 | hs1 | hs1 | hs1
  · refine J_tableIn (tgt := 48) (by omega) (by omega) dX10_count_1 (by omega) (by omega) (by rw [hs1]; rfl) rfl ?_
    refine J_aload_n (pc1 := 49) rfl (i := 0) rfl dX10_count_48 rfl ?_
    refine J_get (pc1 := 52) (j := 0) inUX10 (ci := 10) rfl (by decide) lf_X10_7 dX10_count_49 rfl W.1 rfl ?_
    refine J_iconst (pc1 := 53) dX10_count_52 rfl ?_
    refine J_iald (pc1 := 54) dX10_count_53 rfl W.2.1 (by omega) (by omega) (by omega) ?_
    exact J_iret rfl rfl dX10_count_54 (Nat.le_refl _) (Nat.le_refl _) (⟨by rw [(by assumption : w = 4), cnA_4], hM9, frM.rf⟩)
  · refine J_tableIn (tgt := 55) (by omega) (by omega) dX10_count_1 (by omega) (by omega) (by rw [hs1]; rfl) rfl ?_
    refine J_aload_n (pc1 := 56) rfl (i := 0) rfl dX10_count_55 rfl ?_
    refine J_callVI (pc1 := 59) (As := []) gv_X10_46 yv_X10_isOver rfl (c_X10_isOver ⟨W.1, W.2.1, W.2.2.1, W.2.2.2.1, W.2.2.2.2.1, W.2.2.2.2.2.1, W.2.2.2.2.2.2.1, W.2.2.2.2.2.2.2⟩ okf) dX10_count_56 rfl W.1 rfl rfl (by omega) (by decide) (by omega) (by omega) (Nat.le_of_ble_eq_true rfl) ?_
    refine J_if_eq (pc1 := 62) (tgt := 68) (bZ_lo _) (bZ_hi _) dX10_count_59 rfl rfl (fun hc2 => ?_) (fun hc2 => ?_)
    · refine J_aload_n (pc1 := 69) rfl (i := 0) rfl dX10_count_68 rfl ?_
      refine J_get (pc1 := 72) (j := 0) inUX10 (ci := 10) rfl (by decide) lf_X10_7 dX10_count_69 rfl W.1 rfl ?_
      refine J_iconst (pc1 := 73) dX10_count_72 rfl ?_
      refine J_iald (pc1 := 74) dX10_count_73 rfl W.2.1 (by omega) (by omega) (by omega) ?_
      exact J_iret rfl rfl dX10_count_74 (Nat.le_refl _) (Nat.le_refl _) (⟨by rw [(by assumption : w = 5), cnA_5, if_neg (bZ_0 (P := winE (f 0) (f 4) ≠ -1006) (by assumption))], hM9, frM.rf⟩)
    · refine J_sipush (pc1 := 65) (by decide) dX10_count_62 rfl ?_
      refine J_goto (tgt := 74) dX10_count_65 rfl ?_
      exact J_iret rfl rfl dX10_count_74 (Nat.le_refl _) (Nat.le_refl _) (⟨by rw [(by assumption : w = 5), cnA_5, if_pos (bZ_1 (P := winE (f 0) (f 4) ≠ -1006) (by assumption))], hM9, frM.rf⟩)
  · refine J_tableIn (tgt := 75) (by omega) (by omega) dX10_count_1 (by omega) (by omega) (by rw [hs1]; rfl) rfl ?_
    refine J_aload_n (pc1 := 76) rfl (i := 0) rfl dX10_count_75 rfl ?_
    refine J_get (pc1 := 79) (j := 0) inUX10 (ci := 10) rfl (by decide) lf_X10_7 dX10_count_76 rfl W.1 rfl ?_
    refine J_bipush (pc1 := 81) (by decide) dX10_count_79 rfl ?_
    refine J_iald (pc1 := 82) dX10_count_81 rfl W.2.1 (by omega) (by omega) (by omega) ?_
    exact J_iret rfl rfl dX10_count_82 (Nat.le_refl _) (Nat.le_refl _) (⟨by rw [(by assumption : w = 6), cnA_6], hM9, frM.rf⟩)
  · refine J_tableIn (tgt := 83) (by omega) (by omega) dX10_count_1 (by omega) (by omega) (by rw [hs1]; rfl) rfl ?_
    refine J_aload_n (pc1 := 84) rfl (i := 0) rfl dX10_count_83 rfl ?_
    refine J_aload_n (pc1 := 85) rfl (i := 0) rfl dX10_count_84 rfl ?_
    refine J_get (pc1 := 88) (j := 0) inUX10 (ci := 10) rfl (by decide) lf_X10_7 dX10_count_85 rfl W.1 rfl ?_
    refine J_iconst (pc1 := 89) dX10_count_88 rfl ?_
    refine J_iald (pc1 := 90) dX10_count_89 rfl W.2.1 (by omega) (by omega) (by omega) ?_
    refine J_callVI (pc1 := 93) (As := [.int (iI (f 4))]) gv_X10_38 yv_X10_winnerAt rfl (c_X10_winnerAt ⟨W.1, W.2.1, W.2.2.1, W.2.2.2.1, W.2.2.2.2.1, W.2.2.2.2.2.1, W.2.2.2.2.2.2.1, W.2.2.2.2.2.2.2⟩ (h := f 4) (by omega) (by omega)) dX10_count_90 rfl W.1 rfl rfl (by omega) (by decide) (by omega) (by omega) (Nat.le_of_ble_eq_true rfl) ?_
    exact J_iret rfl rfl dX10_count_93 (Nat.le_refl _) (Nat.le_refl _) (⟨by rw [(by assumption : w = 7), cnA_7, wiE_okF okf], hM9, frM.rf⟩)
  · refine J_tableIn (tgt := 94) (by omega) (by omega) dX10_count_1 (by omega) (by omega) (by rw [hs1]; rfl) rfl ?_
    refine J_aload_n (pc1 := 95) rfl (i := 0) rfl dX10_count_94 rfl ?_
    refine J_get (pc1 := 98) (j := 0) inUX10 (ci := 10) rfl (by decide) lf_X10_7 dX10_count_95 rfl W.1 rfl ?_
    refine J_bipush (pc1 := 100) (by decide) dX10_count_98 rfl ?_
    refine J_iald (pc1 := 101) dX10_count_100 rfl W.2.1 (by omega) (by omega) (by omega) ?_
    exact J_iret rfl rfl dX10_count_101 (Nat.le_refl _) (Nat.le_refl _) (⟨by rw [(by assumption : w = 8), cnA_8], hM9, frM.rf⟩)
  · refine J_tableIn (tgt := 102) (by omega) (by omega) dX10_count_1 (by omega) (by omega) (by rw [hs1]; rfl) rfl ?_
    refine J_aload_n (pc1 := 103) rfl (i := 0) rfl dX10_count_102 rfl ?_
    refine J_get (pc1 := 106) (j := 0) inUX10 (ci := 10) rfl (by decide) lf_X10_7 dX10_count_103 rfl W.1 rfl ?_
    refine J_bipush (pc1 := 108) (by decide) dX10_count_106 rfl ?_
    refine J_iald (pc1 := 109) dX10_count_108 rfl W.2.1 (by omega) (by omega) (by omega) ?_
    exact J_iret rfl rfl dX10_count_109 (Nat.le_refl _) (Nat.le_refl _) (⟨by rw [(by assumption : w = 9), cnA_9, okf.2.2.2.2.2.2.2.2.2.2.2], hM9, frM.rf⟩)
  · refine J_tableIn (tgt := 110) (by omega) (by omega) dX10_count_1 (by omega) (by omega) (by rw [hs1]; rfl) rfl ?_
    refine J_aload_n (pc1 := 111) rfl (i := 0) rfl dX10_count_110 rfl ?_
    refine J_get (pc1 := 114) (j := 10) inUX10 (ci := 10) rfl (by decide) lf_X10_132 dX10_count_111 rfl W.1 rfl ?_
    exact J_iret rfl rfl dX10_count_114 (Nat.le_refl _) (Nat.le_refl _) (⟨by rw [(by assumption : w = 10), cnA_10], hM9, frM.rf⟩)
  · refine J_tableIn (tgt := 115) (by omega) (by omega) dX10_count_1 (by omega) (by omega) (by rw [hs1]; rfl) rfl ?_
    refine J_aload_n (pc1 := 116) rfl (i := 0) rfl dX10_count_115 rfl ?_
    refine J_get (pc1 := 119) (j := 2) inUX10 (ci := 10) rfl (by decide) lf_X10_34 dX10_count_116 rfl W.1 rfl ?_
    exact J_iret rfl rfl dX10_count_119 (Nat.le_refl _) (Nat.le_refl _) (⟨by rw [(by assumption : w = 11), cnA_11], hM9, frM.rf⟩)
  · refine J_tableOut (tgt := 120) (by omega) (by omega) dX10_count_1 hs1 rfl ?_
    refine J_iload_n (pc1 := 121) rfl (i := 1) rfl dX10_count_120 rfl ?_
    refine J_i2l (pc1 := 122) dX10_count_121 rfl ?_
    refine J_lconst (pc1 := 123) (v := 0) (by decide) dX10_count_122 rfl ?_
    refine J_ldc2 (pc1 := 126) lq_X10_93 dX10_count_123 rfl ?_
    refine J_callSI (pc1 := 129) (As := [.long (iI w).toInt64, .long 0, .long (3 : Int64)]) gs_X10_95 yv_X10_in (c_X10_in (v := w) (lo := 0) (hi := 3) (i2l_i (by omega)) (by decide) (by decide)) dX10_count_126 rfl rfl rfl (by omega) (by decide) (by omega) (by omega) (Nat.le_of_ble_eq_true rfl) ?_
    refine J_if_eq (pc1 := 132) (tgt := 141) (bC_lo _) (bC_hi _) dX10_count_129 rfl rfl (fun hc3 => ?_) (fun hc3 => ?_)
    · refine J_sipush (pc1 := 144) (by decide) dX10_count_141 rfl ?_
      exact J_iret rfl rfl dX10_count_144 (Nat.le_refl _) (Nat.le_refl _) (⟨by rw [cnA_o f n L (by assumption) (bC_0 (by assumption))], hM9, frM.rf⟩)
    · have hw3 : 0 ≤ w ∧ w ≤ 3 := bC_1 (by assumption)
      refine J_aload_n (pc1 := 133) rfl (i := 0) rfl dX10_count_132 rfl ?_
      refine J_get (pc1 := 136) (j := 0) inUX10 (ci := 10) rfl (by decide) lf_X10_7 dX10_count_133 rfl W.1 rfl ?_
      refine J_iload_n (pc1 := 137) rfl (i := 1) rfl dX10_count_136 rfl ?_
      refine J_iald (pc1 := 138) dX10_count_137 rfl W.2.1 (by omega) (by omega) (by omega) ?_
      refine J_goto (tgt := 144) dX10_count_138 rfl ?_
      exact J_iret rfl rfl dX10_count_144 (Nat.le_refl _) (Nat.le_refl _) (⟨by rw [cnA_s f n L (bC_1 (by assumption))], hM9, frM.rf⟩)
set_option maxHeartbeats 2000000 in
set_option maxRecDepth 20000 in
theorem lh_s0 {S : pS} {B : Nat → Nat} {f f1 f2 : Int → Int} {b0 b1 : Int} {n : Nat} {H : Nat → Int → Int} {tx : Int → Int} {L : Nat} (hM : MS S B f f1 f2 b0 b1 n H tx L) (ok : okX f f1 f2 b0 b1 n H) {K : Option Value → pS → Prop} {h : Int} (h0 : 0 ≤ h) (h6 : h ≤ 6) (qa : ∀ T, MS T B f f1 f2 b0 b1 n H tx L → frM S T B → twT f 0 (h + f 1) < 9 → K (some (.int (iI h))) T) (qb : ∀ T, MS T B f f1 f2 b0 b1 n H tx L → frM S T B → ¬ twT f 0 (h + f 1) < 9 → Jd yX10_leastHours cX10_leastHours 5 (Option.some FieldType.int) 7 0 0 K 0 0 T 24 [some (.ref (B 0)), some (.int (iI 0)), some (.int (iI (h + 1))), none, none] []) : Jd yX10_leastHours cX10_leastHours 5 (Option.some FieldType.int) 7 0 0 K 0 0 S 24 [some (.ref (B 0)), some (.int (iI 0)), some (.int (iI h)), none, none] [] := by
  have hM9 := hM
  obtain ⟨hs, sl, sv, ti, to, ik, kr, ks, sp, nu, rd, W, hH, hm0, hm1, hv0, hv1, hC⟩ := hM
  have okf := ok.1
  have hn6 := ok.2.2.2.2.2.1
  obtain ⟨o0, o1, o2, o3, o4, o5, o7, o9, o10, o12, o13, -⟩ := id okf
  have tb := twT_b f 0 (h + f 1)
  have tb2 := rvT_b tb
  have tb9 := rvT_9 tb
  refine J_iload_n (pc1 := 25) rfl (i := 2) rfl dX10_leastHours_24 rfl ?_
  refine J_bipush (pc1 := 27) (by decide) dX10_leastHours_25 rfl ?_
  refine J_icmp_gt (pc1 := 30) (tgt := 85) (by omega) (by omega) (by decide) (by decide) dX10_leastHours_27 rfl rfl (fun hc1 => ?_) (fun hc1 => ?_)
  · exact absurd hc1 (by omega)
  · refine J_iload_n (pc1 := 31) rfl (i := 1) rfl dX10_leastHours_30 rfl ?_
    refine J_if_ne (pc1 := 34) (tgt := 38) (by decide) (by decide) dX10_leastHours_31 rfl rfl (fun hc2 => ?_) (fun hc2 => ?_)
    · exact absurd hc2 (by decide)
    · refine J_iload_n (pc1 := 35) rfl (i := 2) rfl dX10_leastHours_34 rfl ?_
      refine J_goto (tgt := 45) dX10_leastHours_35 rfl ?_
      refine J_istore_n (pc1 := 46) (L1 := [some (.ref (B 0)), some (.int (iI 0)), some (.int (iI h)), some (.int (iI h)), none]) rfl (i := 3) dX10_leastHours_45 rfl (by decide) rfl rfl ?_
      refine J_iload_n (pc1 := 47) rfl (i := 1) rfl dX10_leastHours_46 rfl ?_
      refine J_iconst (pc1 := 48) dX10_leastHours_47 rfl ?_
      refine J_icmp_ne (pc1 := 51) (tgt := 55) (by decide) (by decide) (by decide) (by decide) dX10_leastHours_48 rfl rfl (fun hc3 => ?_) (fun hc3 => ?_)
      · refine J_aload_n (pc1 := 56) rfl (i := 0) rfl dX10_leastHours_55 rfl ?_
        refine J_get (pc1 := 59) (j := 0) inUX10 (ci := 10) rfl (by decide) lf_X10_7 dX10_leastHours_56 rfl W.1 rfl ?_
        refine J_bipush (pc1 := 61) (by decide) dX10_leastHours_59 rfl ?_
        refine J_iald (pc1 := 62) dX10_leastHours_61 rfl W.2.1 (by omega) (by omega) (by omega) ?_
        refine J_istore (pc1 := 64) (L1 := [some (.ref (B 0)), some (.int (iI 0)), some (.int (iI h)), some (.int (iI h)), some (.int (iI (f 8)))]) dX10_leastHours_62 rfl (by decide) rfl rfl ?_
        refine J_aload_n (pc1 := 65) rfl (i := 0) rfl dX10_leastHours_64 rfl ?_
        refine J_iload_n (pc1 := 66) rfl (i := 1) rfl dX10_leastHours_65 rfl ?_
        refine J_iload_n (pc1 := 67) rfl (i := 3) rfl dX10_leastHours_66 rfl ?_
        refine J_iload (pc1 := 69) rfl dX10_leastHours_67 rfl ?_
        refine J_callVIs (pc1 := 72) (As := [.int (iI 0), .int (iI h), .int (iI (f 8))]) gv_X10_90 yv_X10_timeWith rfl (c_X10_timeWith hM9 ok (p := 0) (by decide) (one := h) (ot := f 8) (m := h + f 1) (by omega) (by omega) (fun q => ⟨h6, (o13 q).2⟩) (by omega) rfl rfl) dX10_leastHours_69 rfl W.1 rfl rfl (by omega) (by decide) (by omega) (by omega) (Nat.le_of_ble_eq_true rfl) (fun T1 hT1 => ?_)
        obtain ⟨M1, r1⟩ := hT1
        obtain ⟨hs1, sl1, sv1, ti1, to1, ik1, kr1, ks1, sp1, nu1, rd1, W1, hH1, hm01, hm11, hv01, hv11, hC1⟩ := id M1
        refine J_bipush (pc1 := 74) (by decide) dX10_leastHours_72 rfl ?_
        refine J_icmp_eq (pc1 := 77) (tgt := 79) (by omega) (by omega) (by decide) (by decide) dX10_leastHours_74 rfl rfl (fun hc4 => ?_) (fun hc4 => ?_)
        · refine J_iinc (pc1 := 82) (L1 := [some (.ref (B 0)), some (.int (iI 0)), some (.int (iI (h + 1))), some (.int (iI h)), some (.int (iI (f 8)))]) dX10_leastHours_79 rfl rfl (by decide) rfl rfl ?_
          refine J_goto (tgt := 24) dX10_leastHours_82 rfl ?_
          refine J_sub (L1 := [some (.ref (B 0)), some (.int (iI 0)), some (.int (iI (h + 1))), none, none]) ⟨rfl, rfl, rfl, trivial⟩ ?_
          exact qb T1 M1 r1 (by omega)
        · refine J_iload_n (pc1 := 78) rfl (i := 2) rfl dX10_leastHours_77 rfl ?_
          exact J_iret rfl rfl dX10_leastHours_78 (Nat.le_refl _) (Nat.le_refl _) (qa T1 M1 r1 (by omega))
      · exact absurd hc3 (by decide)
set_option maxHeartbeats 2000000 in
set_option maxRecDepth 20000 in
theorem lh_s1 {S : pS} {B : Nat → Nat} {f f1 f2 : Int → Int} {b0 b1 : Int} {n : Nat} {H : Nat → Int → Int} {tx : Int → Int} {L : Nat} (hM : MS S B f f1 f2 b0 b1 n H tx L) (ok : okX f f1 f2 b0 b1 n H) {K : Option Value → pS → Prop} {h : Int} (h0 : 0 ≤ h) (h6 : h ≤ 6) (qa : ∀ T, MS T B f f1 f2 b0 b1 n H tx L → frM S T B → twT f 1 (h + f 1) < 9 → K (some (.int (iI h))) T) (qb : ∀ T, MS T B f f1 f2 b0 b1 n H tx L → frM S T B → ¬ twT f 1 (h + f 1) < 9 → Jd yX10_leastHours cX10_leastHours 5 (Option.some FieldType.int) 7 0 0 K 0 0 T 24 [some (.ref (B 0)), some (.int (iI 1)), some (.int (iI (h + 1))), none, none] []) : Jd yX10_leastHours cX10_leastHours 5 (Option.some FieldType.int) 7 0 0 K 0 0 S 24 [some (.ref (B 0)), some (.int (iI 1)), some (.int (iI h)), none, none] [] := by
  have hM9 := hM
  obtain ⟨hs, sl, sv, ti, to, ik, kr, ks, sp, nu, rd, W, hH, hm0, hm1, hv0, hv1, hC⟩ := hM
  have okf := ok.1
  have hn6 := ok.2.2.2.2.2.1
  obtain ⟨o0, o1, o2, o3, o4, o5, o7, o9, o10, o12, o13, -⟩ := id okf
  have tb := twT_b f 1 (h + f 1)
  have tb2 := rvT_b tb
  have tb9 := rvT_9 tb
  refine J_iload_n (pc1 := 25) rfl (i := 2) rfl dX10_leastHours_24 rfl ?_
  refine J_bipush (pc1 := 27) (by decide) dX10_leastHours_25 rfl ?_
  refine J_icmp_gt (pc1 := 30) (tgt := 85) (by omega) (by omega) (by decide) (by decide) dX10_leastHours_27 rfl rfl (fun hc1 => ?_) (fun hc1 => ?_)
  · exact absurd hc1 (by omega)
  · refine J_iload_n (pc1 := 31) rfl (i := 1) rfl dX10_leastHours_30 rfl ?_
    refine J_if_ne (pc1 := 34) (tgt := 38) (by decide) (by decide) dX10_leastHours_31 rfl rfl (fun hc2 => ?_) (fun hc2 => ?_)
    · refine J_aload_n (pc1 := 39) rfl (i := 0) rfl dX10_leastHours_38 rfl ?_
      refine J_get (pc1 := 42) (j := 0) inUX10 (ci := 10) rfl (by decide) lf_X10_7 dX10_leastHours_39 rfl W.1 rfl ?_
      refine J_bipush (pc1 := 44) (by decide) dX10_leastHours_42 rfl ?_
      refine J_iald (pc1 := 45) dX10_leastHours_44 rfl W.2.1 (by omega) (by omega) (by omega) ?_
      refine J_istore_n (pc1 := 46) (L1 := [some (.ref (B 0)), some (.int (iI 1)), some (.int (iI h)), some (.int (iI (f 7))), none]) rfl (i := 3) dX10_leastHours_45 rfl (by decide) rfl rfl ?_
      refine J_iload_n (pc1 := 47) rfl (i := 1) rfl dX10_leastHours_46 rfl ?_
      refine J_iconst (pc1 := 48) dX10_leastHours_47 rfl ?_
      refine J_icmp_ne (pc1 := 51) (tgt := 55) (by decide) (by decide) (by decide) (by decide) dX10_leastHours_48 rfl rfl (fun hc3 => ?_) (fun hc3 => ?_)
      · exact absurd hc3 (by decide)
      · refine J_iload_n (pc1 := 52) rfl (i := 2) rfl dX10_leastHours_51 rfl ?_
        refine J_goto (tgt := 62) dX10_leastHours_52 rfl ?_
        refine J_istore (pc1 := 64) (L1 := [some (.ref (B 0)), some (.int (iI 1)), some (.int (iI h)), some (.int (iI (f 7))), some (.int (iI h))]) dX10_leastHours_62 rfl (by decide) rfl rfl ?_
        refine J_aload_n (pc1 := 65) rfl (i := 0) rfl dX10_leastHours_64 rfl ?_
        refine J_iload_n (pc1 := 66) rfl (i := 1) rfl dX10_leastHours_65 rfl ?_
        refine J_iload_n (pc1 := 67) rfl (i := 3) rfl dX10_leastHours_66 rfl ?_
        refine J_iload (pc1 := 69) rfl dX10_leastHours_67 rfl ?_
        refine J_callVIs (pc1 := 72) (As := [.int (iI 1), .int (iI (f 7)), .int (iI h)]) gv_X10_90 yv_X10_timeWith rfl (c_X10_timeWith hM9 ok (p := 1) (by decide) (one := f 7) (ot := h) (m := h + f 1) (by omega) (by omega) (fun q => ⟨(o13 q).1, h6⟩) (by omega) rfl rfl) dX10_leastHours_69 rfl W.1 rfl rfl (by omega) (by decide) (by omega) (by omega) (Nat.le_of_ble_eq_true rfl) (fun T1 hT1 => ?_)
        obtain ⟨M1, r1⟩ := hT1
        obtain ⟨hs1, sl1, sv1, ti1, to1, ik1, kr1, ks1, sp1, nu1, rd1, W1, hH1, hm01, hm11, hv01, hv11, hC1⟩ := id M1
        refine J_bipush (pc1 := 74) (by decide) dX10_leastHours_72 rfl ?_
        refine J_icmp_eq (pc1 := 77) (tgt := 79) (by omega) (by omega) (by decide) (by decide) dX10_leastHours_74 rfl rfl (fun hc4 => ?_) (fun hc4 => ?_)
        · refine J_iinc (pc1 := 82) (L1 := [some (.ref (B 0)), some (.int (iI 1)), some (.int (iI (h + 1))), some (.int (iI (f 7))), some (.int (iI h))]) dX10_leastHours_79 rfl rfl (by decide) rfl rfl ?_
          refine J_goto (tgt := 24) dX10_leastHours_82 rfl ?_
          refine J_sub (L1 := [some (.ref (B 0)), some (.int (iI 1)), some (.int (iI (h + 1))), none, none]) ⟨rfl, rfl, rfl, trivial⟩ ?_
          exact qb T1 M1 r1 (by omega)
        · refine J_iload_n (pc1 := 78) rfl (i := 2) rfl dX10_leastHours_77 rfl ?_
          exact J_iret rfl rfl dX10_leastHours_78 (Nat.le_refl _) (Nat.le_refl _) (qa T1 M1 r1 (by omega))
    · exact absurd hc2 (by decide)
theorem lh_l {B : Nat → Nat} {f f1 f2 : Int → Int} {b0 b1 : Int} {n : Nat} {H : Nat → Int → Int} {tx : Int → Int} {L : Nat} (ok : okX f f1 f2 b0 b1 n H) {K : Option Value → pS → Prop} {p : Int} (hp : p = 0 ∨ p = 1) : ∀ (m : Nat) {S : pS} (hM : MS S B f f1 f2 b0 b1 n H tx L) {h : Int}, 0 ≤ h → h + m = 7 → (∀ T, MS T B f f1 f2 b0 b1 n H tx L → frM S T B → K (some (.int (iI (lhG f p m h)))) T) → Jd yX10_leastHours cX10_leastHours 5 (Option.some FieldType.int) 7 0 0 K 0 0 S 24 [some (.ref (B 0)), some (.int (iI p)), some (.int (iI h)), none, none] [] := by
  intro m
  induction m with
  | zero =>
    intro S hM h h0 h1 hK
    have e : h = 7 := by omega
    subst e
    have k : K (some (.int (iI (-1006)))) S := hK S hM frM.rf
    refine J_iload_n (pc1 := 25) rfl (i := 2) rfl dX10_leastHours_24 rfl ?_
    refine J_bipush (pc1 := 27) (by decide) dX10_leastHours_25 rfl ?_
    refine J_icmp_gt (pc1 := 30) (tgt := 85) (by decide) (by decide) (by decide) (by decide) dX10_leastHours_27 rfl rfl (fun _ => ?_) (fun q => absurd (by decide) q)
    refine J_sipush (pc1 := 88) (by decide) dX10_leastHours_85 rfl ?_
    exact J_iret rfl rfl dX10_leastHours_88 (Nat.le_refl _) (Nat.le_refl _) k
  | succ m ih =>
    intro S hM h h0 h1 hK
    have qa : ∀ T, MS T B f f1 f2 b0 b1 n H tx L → frM S T B → twT f p (h + f 1) < 9 → K (some (.int (iI h))) T := fun T T1 r1 q => by
      have e : lhG f p (m + 1) h = h := if_pos q
      rw [e] at hK
      exact hK T T1 r1
    have qb : ∀ T, MS T B f f1 f2 b0 b1 n H tx L → frM S T B → ¬ twT f p (h + f 1) < 9 → Jd yX10_leastHours cX10_leastHours 5 (Option.some FieldType.int) 7 0 0 K 0 0 T 24 [some (.ref (B 0)), some (.int (iI p)), some (.int (iI (h + 1))), none, none] [] := fun T T1 r1 q => by
      have e : lhG f p (m + 1) h = lhG f p m (h + 1) := if_neg q
      rw [e] at hK
      exact ih T1 (by omega) (by omega) (fun U hU r2 => hK U hU (frM.tr r1 r2))
    rcases hp with rfl | rfl
    · exact lh_s0 hM ok h0 (by omega) qa qb
    · exact lh_s1 hM ok h0 (by omega) qa qb
set_option maxHeartbeats 1000000 in
set_option maxRecDepth 20000 in
theorem c_X10_leastHours {S : pS} {B : Nat → Nat} {f f1 f2 : Int → Int} {b0 b1 : Int} {n : Nat} {H : Nat → Int → Int} {tx : Int → Int} {L : Nat} (hM : MS S B f f1 f2 b0 b1 n H tx L) (ok : okX f f1 f2 b0 b1 n H) {p : Int} (hp0 : -2147483648 ≤ p ∧ p < 2147483648) : Ct yX10_leastHours cX10_leastHours 5 (Option.some FieldType.int) 7 0 0 [.ref (B 0), .int (iI p)] S (kIS (lhA f p) (fun T => MS T B f f1 f2 b0 b1 n H tx L ∧ frM S T B)) := by
  have hM9 := hM
  obtain ⟨hs, sl, sv, ti, to, ik, kr, ks, sp, nu, rd, W, hH, hm0, hm1, hv0, hv1, hC⟩ := hM
  have okf := ok.1
  have hn6 := ok.2.2.2.2.2.1
  refine Ct.ofJ (by decide +kernel) (Nat.le_of_ble_eq_true rfl) ?_
  refine J_L (L1 := [some (.ref (B 0)), some (.int (iI p)), none, none, none]) rfl ?_
  refine J_iload_n (pc1 := 1) rfl (i := 1) rfl dX10_leastHours_0 rfl ?_
  refine J_callSI (pc1 := 4) (As := [.int (iI p)]) gs_X10_125 yv_X10_isPlayer (c_X10_isPlayer (p := p) (by omega)) dX10_leastHours_1 rfl rfl rfl (by omega) (by decide) (by omega) (by omega) (Nat.le_of_ble_eq_true rfl) ?_
  refine J_if_ne (pc1 := 7) (tgt := 11) (bC_lo _) (bC_hi _) dX10_leastHours_4 rfl rfl (fun hc1 => ?_) (fun hc1 => ?_)
  · have hp : p = 0 ∨ p = 1 := bC_1 (by assumption)
    refine J_aload_n (pc1 := 12) rfl (i := 0) rfl dX10_leastHours_11 rfl ?_
    refine J_callVI (pc1 := 15) (As := []) gv_X10_46 yv_X10_isOver rfl (c_X10_isOver ⟨W.1, W.2.1, W.2.2.1, W.2.2.2.1, W.2.2.2.2.1, W.2.2.2.2.2.1, W.2.2.2.2.2.2.1, W.2.2.2.2.2.2.2⟩ okf) dX10_leastHours_12 rfl W.1 rfl rfl (by omega) (by decide) (by omega) (by omega) (Nat.le_of_ble_eq_true rfl) ?_
    refine J_if_eq (pc1 := 18) (tgt := 22) (bZ_lo _) (bZ_hi _) dX10_leastHours_15 rfl rfl (fun hc2 => ?_) (fun hc2 => ?_)
    · have hw : winF f = -1006 := Decidable.byContradiction (bZ_0 (P := winE (f 0) (f 4) ≠ -1006) (by assumption))
      refine J_iconst (pc1 := 23) dX10_leastHours_22 rfl ?_
      refine J_istore_n (pc1 := 24) (L1 := [some (.ref (B 0)), some (.int (iI p)), some (.int (iI 0)), none, none]) rfl (i := 2) dX10_leastHours_23 rfl (by decide) rfl rfl ?_
      refine lh_l ok hp 7 hM9 (h := 0) (by decide) (by decide) (fun T T1 r1 => ⟨by rw [show lhA f p = lhG f p 7 0 from (if_neg (fun z => z hp)).trans (if_neg (fun z => z hw))], T1, r1⟩)
    · refine J_sipush (pc1 := 21) (by decide) dX10_leastHours_18 rfl ?_
      exact J_iret rfl rfl dX10_leastHours_21 (Nat.le_refl _) (Nat.le_refl _) (⟨by rw [show lhA f p = -1005 from (if_neg (fun z => z hp)).trans (if_pos (bZ_1 (P := winE (f 0) (f 4) ≠ -1006) (by assumption)))], hM9, frM.rf⟩)
  · refine J_sipush (pc1 := 10) (by decide) dX10_leastHours_7 rfl ?_
    exact J_iret rfl rfl dX10_leastHours_10 (Nat.le_refl _) (Nat.le_refl _) (⟨by rw [show lhA f p = -1001 from if_pos (bC_0 (by assumption))], hM9, frM.rf⟩)
