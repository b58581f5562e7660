/-! 29.mtime: the reference knows the times -/
def ruF (f : Int → Int) : Int := 1000 * f 0 + 100 * f 1 + 10 * f 2 + f 3
theorem CK_hit {f ti : Int → Int} {ik kr ks sm : Int} (ok : okF f) (C : CK ti ik kr ks) (h : ik = 1 ∧ kr = ruF f ∧ (f 2 = 1 ∨ ks = sm)) : TOK (f 0) (f 1) (f 2) (f 3) sm ti := by
  rcases C with z | ⟨_, E, ln, ps, tn, c1, c2, c3, c4, c5, c6, c7⟩
  · omega
  · obtain ⟨h1, h2, h3⟩ := h
    obtain ⟨o0, o1, o2, o3, -⟩ := ok
    unfold ruF at h2
    have e1 : tn = f 3 := by omega
    have e2 : ps = f 2 := by omega
    have e3 : ln = f 1 := by omega
    have e4 : E = f 0 := by omega
    subst e1 e2 e3 e4
    intro p h one ot fi a1 a2 a3 a4 a5 a6 a7
    exact c7 p h one ot fi a1 a2 a3 a4 a5 (fun q => by have := a6 q; omega) a7
theorem CK_new {f ti : Int → Int} {sm : Int} (ok : okF f) (hs : -100 ≤ sm ∧ sm ≤ 20) (h : TOK (f 0) (f 1) (f 2) (f 3) sm ti) : CK ti 1 (ruF f) sm :=
  Or.inr ⟨rfl, f 0, f 1, f 2, f 3, ok.1, ok.2.1, ok.2.2.1, ok.2.2.2.1, hs, rfl, h⟩
theorem ok_R {f : Int → Int} {sm : Int} (ok : okF f) (hs : -100 ≤ sm ∧ sm ≤ 20) : okR (f 0) (f 1) (f 2) (f 3) sm := ⟨ok.1, ok.2.1, ok.2.2.1, ok.2.2.2.1, hs⟩
set_option maxHeartbeats 1000000 in
set_option maxRecDepth 20000 in
theorem kn_h {S : pS} {B : Nat → Nat} {f hs sl sv ti tx to : Int → Int} {n ik kr ks L sp nu rd : Int} (W : MW S B f hs sl sv ti tx to n ik kr ks L sp nu rd) {K : Option Value → pS → Prop} {sm : Int} (ok : okF f) (hs9 : -100 ≤ sm ∧ sm ≤ 20) (C : CK ti ik kr ks) (hh : (ik = 1 ∧ kr = ruF f ∧ (f 2 = 1 ∨ ks = sm))) (hK : K none S)  : Jd yX10_knows cX10_knows 6 none 5 0 0 K 0 0 S 0 [some (.ref (B 0)), some (.int (iI sm)), none, none, none, none] [] := by
  have C9 : (ik = 0 ∨ ik = 1) ∧ (ik = 1 → (0 ≤ kr ∧ kr ≤ 10000) ∧ -100 ≤ ks ∧ ks ≤ 20) := by
    rcases C with z | ⟨z, E, ln, ps, tn, c1, c2, c3, c4, c5, c6, c7⟩
    · exact ⟨Or.inl z, fun q => by omega⟩
    · exact ⟨Or.inr z, fun _ => by omega⟩
  obtain ⟨o0, o1, o2, o3, o4, o5, o7, o9, o10, o12, o13, -⟩ := ok
  have hru : ruF f = 1000 * f 0 + 100 * f 1 + 10 * f 2 + f 3 := rfl
  show Jd yX10_knows cX10_knows 6 none 5 0 0 K 0 0 S 0 [some (.ref (B 0)), some (.int (iI sm)), none, none, none, none] []
  refine J_sipush (pc1 := 3) (by decide) dX10_knows_0 rfl ?_
  refine J_aload_n (pc1 := 4) rfl (i := 0) rfl dX10_knows_3 rfl ?_
  refine J_get (pc1 := 7) (j := 0) inUX10 (ci := 10) rfl (by decide) lf_X10_7 dX10_knows_4 rfl W.1 rfl ?_
  refine J_iconst (pc1 := 8) dX10_knows_7 rfl ?_
  refine J_iald (pc1 := 9) dX10_knows_8 rfl W.2.1 (by omega) (by omega) (by omega) ?_
  refine J_imul (pc1 := 10) dX10_knows_9 rfl ?_
  refine J_bipush (pc1 := 12) (by decide) dX10_knows_10 rfl ?_
  refine J_aload_n (pc1 := 13) rfl (i := 0) rfl dX10_knows_12 rfl ?_
  refine J_get (pc1 := 16) (j := 0) inUX10 (ci := 10) rfl (by decide) lf_X10_7 dX10_knows_13 rfl W.1 rfl ?_
  refine J_iconst (pc1 := 17) dX10_knows_16 rfl ?_
  refine J_iald (pc1 := 18) dX10_knows_17 rfl W.2.1 (by omega) (by omega) (by omega) ?_
  refine J_imul (pc1 := 19) dX10_knows_18 rfl ?_
  refine J_iadd (pc1 := 20) dX10_knows_19 rfl ?_
  refine J_bipush (pc1 := 22) (by decide) dX10_knows_20 rfl ?_
  refine J_aload_n (pc1 := 23) rfl (i := 0) rfl dX10_knows_22 rfl ?_
  refine J_get (pc1 := 26) (j := 0) inUX10 (ci := 10) rfl (by decide) lf_X10_7 dX10_knows_23 rfl W.1 rfl ?_
  refine J_iconst (pc1 := 27) dX10_knows_26 rfl ?_
  refine J_iald (pc1 := 28) dX10_knows_27 rfl W.2.1 (by omega) (by omega) (by omega) ?_
  refine J_imul (pc1 := 29) dX10_knows_28 rfl ?_
  refine J_iadd (pc1 := 30) dX10_knows_29 rfl ?_
  refine J_aload_n (pc1 := 31) rfl (i := 0) rfl dX10_knows_30 rfl ?_
  refine J_get (pc1 := 34) (j := 0) inUX10 (ci := 10) rfl (by decide) lf_X10_7 dX10_knows_31 rfl W.1 rfl ?_
  refine J_iconst (pc1 := 35) dX10_knows_34 rfl ?_
  refine J_iald (pc1 := 36) dX10_knows_35 rfl W.2.1 (by omega) (by omega) (by omega) ?_
  refine J_iadd (pc1 := 37) dX10_knows_36 rfl ?_
  refine J_istore_n (pc1 := 38) (L1 := [some (.ref (B 0)), some (.int (iI sm)), some (.int (iI ((((1000 * (f 0)) + (100 * (f 1))) + (10 * (f 2))) + (f 3)))), none, none, none]) rfl (i := 2) dX10_knows_37 rfl (by decide) rfl rfl ?_
  refine J_aload_n (pc1 := 39) rfl (i := 0) rfl dX10_knows_38 rfl ?_
  refine J_get (pc1 := 42) (j := 6) inUX10 (ci := 10) rfl (by decide) lf_X10_73 dX10_knows_39 rfl W.1 rfl ?_
  refine J_iconst (pc1 := 43) dX10_knows_42 rfl ?_
  refine J_icmp_ne (pc1 := 46) (tgt := 73) (by omega) (by omega) (by decide) (by decide) dX10_knows_43 rfl rfl (fun hc1 => ?_) (fun hc1 => ?_)
  · exact absurd hc1 (by omega)
  · refine J_aload_n (pc1 := 47) rfl (i := 0) rfl dX10_knows_46 rfl ?_
    refine J_get (pc1 := 50) (j := 7) inUX10 (ci := 10) rfl (by decide) lf_X10_76 dX10_knows_47 rfl W.1 rfl ?_
    refine J_iload_n (pc1 := 51) rfl (i := 2) rfl dX10_knows_50 rfl ?_
    refine J_icmp_ne (pc1 := 54) (tgt := 73) (by omega) (by omega) (by omega) (by omega) dX10_knows_51 rfl rfl (fun hc2 => ?_) (fun hc2 => ?_)
    · exact absurd hc2 (by omega)
    · refine J_aload_n (pc1 := 55) rfl (i := 0) rfl dX10_knows_54 rfl ?_
      refine J_get (pc1 := 58) (j := 0) inUX10 (ci := 10) rfl (by decide) lf_X10_7 dX10_knows_55 rfl W.1 rfl ?_
      refine J_iconst (pc1 := 59) dX10_knows_58 rfl ?_
      refine J_iald (pc1 := 60) dX10_knows_59 rfl W.2.1 (by omega) (by omega) (by omega) ?_
      refine J_iconst (pc1 := 61) dX10_knows_60 rfl ?_
      refine J_icmp_eq (pc1 := 64) (tgt := 72) (by omega) (by omega) (by decide) (by decide) dX10_knows_61 rfl rfl (fun hc3 => ?_) (fun hc3 => ?_)
      · exact J_vret rfl dX10_knows_72 (Nat.le_refl _) (Nat.le_refl _) (hK)
      · refine J_aload_n (pc1 := 65) rfl (i := 0) rfl dX10_knows_64 rfl ?_
        refine J_get (pc1 := 68) (j := 8) inUX10 (ci := 10) rfl (by decide) lf_X10_79 dX10_knows_65 rfl W.1 rfl ?_
        refine J_iload_n (pc1 := 69) rfl (i := 1) rfl dX10_knows_68 rfl ?_
        refine J_icmp_ne (pc1 := 72) (tgt := 73) (by omega) (by omega) (by omega) (by omega) dX10_knows_69 rfl rfl (fun hc4 => ?_) (fun hc4 => ?_)
        · exact absurd hc4 (by omega)
        · exact J_vret rfl dX10_knows_72 (Nat.le_refl _) (Nat.le_refl _) (hK)
set_option maxHeartbeats 1000000 in
set_option maxRecDepth 20000 in
theorem kn_m {S : pS} {B : Nat → Nat} {f hs sl sv ti tx to : Int → Int} {n ik kr ks L sp nu rd : Int} (W : MW S B f hs sl sv ti tx to n ik kr ks L sp nu rd) {K : Option Value → pS → Prop} {sm : Int} (ok : okF f) (hs9 : -100 ≤ sm ∧ sm ≤ 20) (C : CK ti ik kr ks) (hh : ¬ (ik = 1 ∧ kr = ruF f ∧ (f 2 = 1 ∨ ks = sm))) (k : Jd yX10_knows cX10_knows 6 none 5 0 0 K 0 0 S 75 [some (.ref (B 0)), some (.int (iI sm)), some (.int (iI (ruF f))), some (.int (iI 0)), none, none] []) : Jd yX10_knows cX10_knows 6 none 5 0 0 K 0 0 S 0 [some (.ref (B 0)), some (.int (iI sm)), none, none, none, none] [] := by
  have C9 : (ik = 0 ∨ ik = 1) ∧ (ik = 1 → (0 ≤ kr ∧ kr ≤ 10000) ∧ -100 ≤ ks ∧ ks ≤ 20) := by
    rcases C with z | ⟨z, E, ln, ps, tn, c1, c2, c3, c4, c5, c6, c7⟩
    · exact ⟨Or.inl z, fun q => by omega⟩
    · exact ⟨Or.inr z, fun _ => by omega⟩
  obtain ⟨o0, o1, o2, o3, o4, o5, o7, o9, o10, o12, o13, -⟩ := ok
  have hru : ruF f = 1000 * f 0 + 100 * f 1 + 10 * f 2 + f 3 := rfl
  show Jd yX10_knows cX10_knows 6 none 5 0 0 K 0 0 S 0 [some (.ref (B 0)), some (.int (iI sm)), none, none, none, none] []
  refine J_sipush (pc1 := 3) (by decide) dX10_knows_0 rfl ?_
  refine J_aload_n (pc1 := 4) rfl (i := 0) rfl dX10_knows_3 rfl ?_
  refine J_get (pc1 := 7) (j := 0) inUX10 (ci := 10) rfl (by decide) lf_X10_7 dX10_knows_4 rfl W.1 rfl ?_
  refine J_iconst (pc1 := 8) dX10_knows_7 rfl ?_
  refine J_iald (pc1 := 9) dX10_knows_8 rfl W.2.1 (by omega) (by omega) (by omega) ?_
  refine J_imul (pc1 := 10) dX10_knows_9 rfl ?_
  refine J_bipush (pc1 := 12) (by decide) dX10_knows_10 rfl ?_
  refine J_aload_n (pc1 := 13) rfl (i := 0) rfl dX10_knows_12 rfl ?_
  refine J_get (pc1 := 16) (j := 0) inUX10 (ci := 10) rfl (by decide) lf_X10_7 dX10_knows_13 rfl W.1 rfl ?_
  refine J_iconst (pc1 := 17) dX10_knows_16 rfl ?_
  refine J_iald (pc1 := 18) dX10_knows_17 rfl W.2.1 (by omega) (by omega) (by omega) ?_
  refine J_imul (pc1 := 19) dX10_knows_18 rfl ?_
  refine J_iadd (pc1 := 20) dX10_knows_19 rfl ?_
  refine J_bipush (pc1 := 22) (by decide) dX10_knows_20 rfl ?_
  refine J_aload_n (pc1 := 23) rfl (i := 0) rfl dX10_knows_22 rfl ?_
  refine J_get (pc1 := 26) (j := 0) inUX10 (ci := 10) rfl (by decide) lf_X10_7 dX10_knows_23 rfl W.1 rfl ?_
  refine J_iconst (pc1 := 27) dX10_knows_26 rfl ?_
  refine J_iald (pc1 := 28) dX10_knows_27 rfl W.2.1 (by omega) (by omega) (by omega) ?_
  refine J_imul (pc1 := 29) dX10_knows_28 rfl ?_
  refine J_iadd (pc1 := 30) dX10_knows_29 rfl ?_
  refine J_aload_n (pc1 := 31) rfl (i := 0) rfl dX10_knows_30 rfl ?_
  refine J_get (pc1 := 34) (j := 0) inUX10 (ci := 10) rfl (by decide) lf_X10_7 dX10_knows_31 rfl W.1 rfl ?_
  refine J_iconst (pc1 := 35) dX10_knows_34 rfl ?_
  refine J_iald (pc1 := 36) dX10_knows_35 rfl W.2.1 (by omega) (by omega) (by omega) ?_
  refine J_iadd (pc1 := 37) dX10_knows_36 rfl ?_
  refine J_istore_n (pc1 := 38) (L1 := [some (.ref (B 0)), some (.int (iI sm)), some (.int (iI ((((1000 * (f 0)) + (100 * (f 1))) + (10 * (f 2))) + (f 3)))), none, none, none]) rfl (i := 2) dX10_knows_37 rfl (by decide) rfl rfl ?_
  refine J_aload_n (pc1 := 39) rfl (i := 0) rfl dX10_knows_38 rfl ?_
  refine J_get (pc1 := 42) (j := 6) inUX10 (ci := 10) rfl (by decide) lf_X10_73 dX10_knows_39 rfl W.1 rfl ?_
  refine J_iconst (pc1 := 43) dX10_knows_42 rfl ?_
  refine J_icmp_ne (pc1 := 46) (tgt := 73) (by omega) (by omega) (by decide) (by decide) dX10_knows_43 rfl rfl (fun hc1 => ?_) (fun hc1 => ?_)
  · refine J_iconst (pc1 := 74) dX10_knows_73 rfl ?_
    refine J_istore_n (pc1 := 75) (L1 := [some (.ref (B 0)), some (.int (iI sm)), some (.int (iI ((((1000 * (f 0)) + (100 * (f 1))) + (10 * (f 2))) + (f 3)))), some (.int (iI 0)), none, none]) rfl (i := 3) dX10_knows_74 rfl (by decide) rfl rfl ?_
    refine J_L (L1 := [some (.ref (B 0)), some (.int (iI sm)), some (.int (iI (ruF f))), some (.int (iI 0)), none, none]) (by rw [show (ruF f) = ((((1000 * (f 0)) + (100 * (f 1))) + (10 * (f 2))) + (f 3)) by rfl]) ?_
    exact k
  · refine J_aload_n (pc1 := 47) rfl (i := 0) rfl dX10_knows_46 rfl ?_
    refine J_get (pc1 := 50) (j := 7) inUX10 (ci := 10) rfl (by decide) lf_X10_76 dX10_knows_47 rfl W.1 rfl ?_
    refine J_iload_n (pc1 := 51) rfl (i := 2) rfl dX10_knows_50 rfl ?_
    refine J_icmp_ne (pc1 := 54) (tgt := 73) (by omega) (by omega) (by omega) (by omega) dX10_knows_51 rfl rfl (fun hc2 => ?_) (fun hc2 => ?_)
    · refine J_iconst (pc1 := 74) dX10_knows_73 rfl ?_
      refine J_istore_n (pc1 := 75) (L1 := [some (.ref (B 0)), some (.int (iI sm)), some (.int (iI ((((1000 * (f 0)) + (100 * (f 1))) + (10 * (f 2))) + (f 3)))), some (.int (iI 0)), none, none]) rfl (i := 3) dX10_knows_74 rfl (by decide) rfl rfl ?_
      refine J_L (L1 := [some (.ref (B 0)), some (.int (iI sm)), some (.int (iI (ruF f))), some (.int (iI 0)), none, none]) (by rw [show (ruF f) = ((((1000 * (f 0)) + (100 * (f 1))) + (10 * (f 2))) + (f 3)) by rfl]) ?_
      exact k
    · refine J_aload_n (pc1 := 55) rfl (i := 0) rfl dX10_knows_54 rfl ?_
      refine J_get (pc1 := 58) (j := 0) inUX10 (ci := 10) rfl (by decide) lf_X10_7 dX10_knows_55 rfl W.1 rfl ?_
      refine J_iconst (pc1 := 59) dX10_knows_58 rfl ?_
      refine J_iald (pc1 := 60) dX10_knows_59 rfl W.2.1 (by omega) (by omega) (by omega) ?_
      refine J_iconst (pc1 := 61) dX10_knows_60 rfl ?_
      refine J_icmp_eq (pc1 := 64) (tgt := 72) (by omega) (by omega) (by decide) (by decide) dX10_knows_61 rfl rfl (fun hc3 => ?_) (fun hc3 => ?_)
      · exact J_vret rfl dX10_knows_72 (Nat.le_refl _) (Nat.le_refl _) (absurd (show (ik = 1 ∧ kr = ruF f ∧ (f 2 = 1 ∨ ks = sm)) by refine ⟨by omega, by omega, ?_⟩; omega) hh)
      · refine J_aload_n (pc1 := 65) rfl (i := 0) rfl dX10_knows_64 rfl ?_
        refine J_get (pc1 := 68) (j := 8) inUX10 (ci := 10) rfl (by decide) lf_X10_79 dX10_knows_65 rfl W.1 rfl ?_
        refine J_iload_n (pc1 := 69) rfl (i := 1) rfl dX10_knows_68 rfl ?_
        refine J_icmp_ne (pc1 := 72) (tgt := 73) (by omega) (by omega) (by omega) (by omega) dX10_knows_69 rfl rfl (fun hc4 => ?_) (fun hc4 => ?_)
        · refine J_iconst (pc1 := 74) dX10_knows_73 rfl ?_
          refine J_istore_n (pc1 := 75) (L1 := [some (.ref (B 0)), some (.int (iI sm)), some (.int (iI ((((1000 * (f 0)) + (100 * (f 1))) + (10 * (f 2))) + (f 3)))), some (.int (iI 0)), none, none]) rfl (i := 3) dX10_knows_74 rfl (by decide) rfl rfl ?_
          refine J_L (L1 := [some (.ref (B 0)), some (.int (iI sm)), some (.int (iI (ruF f))), some (.int (iI 0)), none, none]) (by rw [show (ruF f) = ((((1000 * (f 0)) + (100 * (f 1))) + (10 * (f 2))) + (f 3)) by rfl]) ?_
          exact k
        · exact J_vret rfl dX10_knows_72 (Nat.le_refl _) (Nat.le_refl _) (absurd (show (ik = 1 ∧ kr = ruF f ∧ (f 2 = 1 ∨ ks = sm)) by refine ⟨by omega, by omega, ?_⟩; omega) hh)
set_option maxHeartbeats 1000000 in
set_option maxRecDepth 20000 in
theorem kn_f {S : pS} {B : Nat → Nat} {f hs sl sv ti tx to : Int → Int} {n ik kr ks L sp nu rd : Int} (W : MW S B f hs sl sv ti tx to n ik kr ks L sp nu rd) {K : Option Value → pS → Prop} {sm j : Int} (ok : okF f) (h0 : 0 ≤ j) (h1 : j < 20412) (k9 : ∀ T g, MW T B f hs sl sv g tx to n ik kr ks L sp nu rd → frM S T B → g = uZ ti j (if wiE (f 0) (j / 1458 % 7 - 3) = j / 10206 then 0 else 99) → Jd yX10_knows cX10_knows 6 none 5 0 0 K 0 0 T 75 [some (.ref (B 0)), some (.int (iI sm)), some (.int (iI (ruF f))), some (.int (iI (j + 1))), none, none] []) : Jd yX10_knows cX10_knows 6 none 5 0 0 K 0 0 S 75 [some (.ref (B 0)), some (.int (iI sm)), some (.int (iI (ruF f))), some (.int (iI j)), none, none] [] := by
  have w9 := wiE_b (f 0) (j / 1458 % 7 - 3)
  obtain ⟨o0, o1, o2, o3, o4, o5, o7, o9, o10, o12, o13, -⟩ := ok
  refine J_iload_n (pc1 := 76) rfl (i := 3) rfl dX10_knows_75 rfl ?_
  refine J_sipush (pc1 := 79) (by decide) dX10_knows_76 rfl ?_
  refine J_icmp_ge (pc1 := 82) (tgt := 130) (by omega) (by omega) (by decide) (by decide) dX10_knows_79 rfl rfl (fun hc1 => ?_) (fun hc1 => ?_)
  · exact absurd hc1 (by omega)
  · refine J_iload_n (pc1 := 83) rfl (i := 3) rfl dX10_knows_82 rfl ?_
    refine J_sipush (pc1 := 86) (by decide) dX10_knows_83 rfl ?_
    refine J_idiv (pc1 := 87) (by omega) (by omega) (by omega) (by omega) dX10_knows_86 rfl ?_
    refine J_istore (pc1 := 89) (L1 := [some (.ref (B 0)), some (.int (iI sm)), some (.int (iI (ruF f))), some (.int (iI j)), some (.int (iI (j / 10206))), none]) dX10_knows_87 rfl (by decide) rfl rfl ?_
    refine J_iload_n (pc1 := 90) rfl (i := 3) rfl dX10_knows_89 rfl ?_
    refine J_sipush (pc1 := 93) (by decide) dX10_knows_90 rfl ?_
    refine J_idiv (pc1 := 94) (by omega) (by omega) (by omega) (by omega) dX10_knows_93 rfl ?_
    refine J_bipush (pc1 := 96) (by decide) dX10_knows_94 rfl ?_
    refine J_irem (pc1 := 97) (by omega) (by omega) (by omega) (by omega) dX10_knows_96 rfl ?_
    refine J_iconst (pc1 := 98) dX10_knows_97 rfl ?_
    refine J_isub (pc1 := 99) dX10_knows_98 rfl ?_
    refine J_istore (pc1 := 101) (L1 := [some (.ref (B 0)), some (.int (iI sm)), some (.int (iI (ruF f))), some (.int (iI j)), some (.int (iI (j / 10206))), some (.int (iI (((j / 1458) % 7) - 3)))]) dX10_knows_99 rfl (by decide) rfl rfl ?_
    refine J_aload_n (pc1 := 102) rfl (i := 0) rfl dX10_knows_101 rfl ?_
    refine J_get (pc1 := 105) (j := 5) inUX10 (ci := 10) rfl (by decide) lf_X10_22 dX10_knows_102 rfl W.1 rfl ?_
    refine J_iload_n (pc1 := 106) rfl (i := 3) rfl dX10_knows_105 rfl ?_
    refine J_aload_n (pc1 := 107) rfl (i := 0) rfl dX10_knows_106 rfl ?_
    refine J_iload (pc1 := 109) rfl dX10_knows_107 rfl ?_
    refine J_callVI (pc1 := 112) (As := [.int (iI (((j / 1458) % 7) - 3))]) gv_X10_38 yv_X10_winnerAt rfl (c_X10_winnerAt ⟨W.1, W.2.1, W.2.2.1, W.2.2.2.1, W.2.2.2.2.1, W.2.2.2.2.2.1, W.2.2.2.2.2.2.1, W.2.2.2.2.2.2.2⟩ (h := ((j / 1458) % 7) - 3) (by omega) (by omega)) dX10_knows_109 rfl W.1 rfl rfl (by omega) (by decide) (by omega) (by omega) (Nat.le_of_ble_eq_true rfl) ?_
    refine J_iload (pc1 := 114) rfl dX10_knows_112 rfl ?_
    refine J_icmp_ne (pc1 := 117) (tgt := 121) (by omega) (by omega) (by omega) (by omega) dX10_knows_114 rfl rfl (fun hc2 => ?_) (fun hc2 => ?_)
    · refine J_bipush (pc1 := 123) (by decide) dX10_knows_121 rfl ?_
      refine J_iast (pc1 := 124) dX10_knows_123 rfl W.2.2.2.2.2.1 (by omega) (by omega) (by omega) ?_
      refine J_iinc (pc1 := 127) (L1 := [some (.ref (B 0)), some (.int (iI sm)), some (.int (iI (ruF f))), some (.int (iI (j + 1))), some (.int (iI (j / 10206))), some (.int (iI (((j / 1458) % 7) - 3)))]) dX10_knows_124 rfl rfl (by decide) rfl rfl ?_
      refine J_goto (tgt := 75) dX10_knows_127 rfl ?_
      refine J_sub (L1 := [some (.ref (B 0)), some (.int (iI sm)), some (.int (iI (ruF f))), some (.int (iI (j + 1))), none, none]) ⟨rfl, rfl, rfl, rfl, trivial⟩ ?_
      exact k9 _ _ ⟨((pu_ne _ _ (ne_OI W.1 W.2.2.2.2.2.1)).trans W.1), ((pu_ne _ _ (ne_II W.2.1 W.2.2.2.2.2.1 (by decide))).trans W.2.1), ((pu_ne _ _ (ne_II W.2.2.1 W.2.2.2.2.2.1 (by decide))).trans W.2.2.1), ((pu_ne _ _ (ne_II W.2.2.2.1 W.2.2.2.2.2.1 (by decide))).trans W.2.2.2.1), ((pu_ne _ _ (ne_II W.2.2.2.2.1 W.2.2.2.2.2.1 (by decide))).trans W.2.2.2.2.1), (pu_self _ _ _), ((pu_ne _ _ (ne_II W.2.2.2.2.2.2.1 W.2.2.2.2.2.1 (by decide))).trans W.2.2.2.2.2.2.1), ((pu_ne _ _ (ne_II W.2.2.2.2.2.2.2 W.2.2.2.2.2.1 (by decide))).trans W.2.2.2.2.2.2.2)⟩ (fun x h0 h1 h2 h3 h4 h5 h6 h7 => (pu_ne _ _ h5)) (show (uZ ti j 99) = uZ ti j (if wiE (f 0) (j / 1458 % 7 - 3) = j / 10206 then 0 else 99) by first | rw [if_pos (by assumption)] | rw [if_neg (by assumption)])
    · refine J_iconst (pc1 := 118) dX10_knows_117 rfl ?_
      refine J_goto (tgt := 123) dX10_knows_118 rfl ?_
      refine J_iast (pc1 := 124) dX10_knows_123 rfl W.2.2.2.2.2.1 (by omega) (by omega) (by omega) ?_
      refine J_iinc (pc1 := 127) (L1 := [some (.ref (B 0)), some (.int (iI sm)), some (.int (iI (ruF f))), some (.int (iI (j + 1))), some (.int (iI (j / 10206))), some (.int (iI (((j / 1458) % 7) - 3)))]) dX10_knows_124 rfl rfl (by decide) rfl rfl ?_
      refine J_goto (tgt := 75) dX10_knows_127 rfl ?_
      refine J_sub (L1 := [some (.ref (B 0)), some (.int (iI sm)), some (.int (iI (ruF f))), some (.int (iI (j + 1))), none, none]) ⟨rfl, rfl, rfl, rfl, trivial⟩ ?_
      exact k9 _ _ ⟨((pu_ne _ _ (ne_OI W.1 W.2.2.2.2.2.1)).trans W.1), ((pu_ne _ _ (ne_II W.2.1 W.2.2.2.2.2.1 (by decide))).trans W.2.1), ((pu_ne _ _ (ne_II W.2.2.1 W.2.2.2.2.2.1 (by decide))).trans W.2.2.1), ((pu_ne _ _ (ne_II W.2.2.2.1 W.2.2.2.2.2.1 (by decide))).trans W.2.2.2.1), ((pu_ne _ _ (ne_II W.2.2.2.2.1 W.2.2.2.2.2.1 (by decide))).trans W.2.2.2.2.1), (pu_self _ _ _), ((pu_ne _ _ (ne_II W.2.2.2.2.2.2.1 W.2.2.2.2.2.1 (by decide))).trans W.2.2.2.2.2.2.1), ((pu_ne _ _ (ne_II W.2.2.2.2.2.2.2 W.2.2.2.2.2.1 (by decide))).trans W.2.2.2.2.2.2.2)⟩ (fun x h0 h1 h2 h3 h4 h5 h6 h7 => (pu_ne _ _ h5)) (show (uZ ti j 0) = uZ ti j (if wiE (f 0) (j / 1458 % 7 - 3) = j / 10206 then 0 else 99) by first | rw [if_pos (by assumption)] | rw [if_neg (by assumption)])
set_option maxHeartbeats 1000000 in
set_option maxRecDepth 20000 in
theorem kn_fx {S : pS} {B : Nat → Nat} {f hs sl sv ti tx to : Int → Int} {n ik kr ks L sp nu rd : Int} (W : MW S B f hs sl sv ti tx to n ik kr ks L sp nu rd) {K : Option Value → pS → Prop} {sm j : Int} (h1 : j = 20412) (k : ∀ T, MW T B f hs sl sv ti tx to n ik kr ks L sp nu rd → frM S T B → Jd yX10_knows cX10_knows 6 none 5 0 0 K 0 0 T 132 [some (.ref (B 0)), some (.int (iI sm)), some (.int (iI (ruF f))), some (.int (iI 1)), none, none] []) : Jd yX10_knows cX10_knows 6 none 5 0 0 K 0 0 S 75 [some (.ref (B 0)), some (.int (iI sm)), some (.int (iI (ruF f))), some (.int (iI j)), none, none] [] := by
  show Jd yX10_knows cX10_knows 6 none 5 0 0 K 0 0 S 75 [some (.ref (B 0)), some (.int (iI sm)), some (.int (iI (ruF f))), some (.int (iI j)), none, none] []
  refine J_iload_n (pc1 := 76) rfl (i := 3) rfl dX10_knows_75 rfl ?_
  refine J_sipush (pc1 := 79) (by decide) dX10_knows_76 rfl ?_
  refine J_icmp_ge (pc1 := 82) (tgt := 130) (by omega) (by omega) (by decide) (by decide) dX10_knows_79 rfl rfl (fun hc1 => ?_) (fun hc1 => ?_)
  · refine J_iconst (pc1 := 131) dX10_knows_130 rfl ?_
    refine J_istore_n (pc1 := 132) (L1 := [some (.ref (B 0)), some (.int (iI sm)), some (.int (iI (ruF f))), some (.int (iI 1)), none, none]) rfl (i := 3) dX10_knows_131 rfl (by decide) rfl rfl ?_
    exact k _ ⟨W.1, W.2.1, W.2.2.1, W.2.2.2.1, W.2.2.2.2.1, W.2.2.2.2.2.1, W.2.2.2.2.2.2.1, W.2.2.2.2.2.2.2⟩ (fun x h0 h1 h2 h3 h4 h5 h6 h7 => rfl)
  · exact absurd hc1 (by omega)
theorem kn_fl {B : Nat → Nat} {f hs sl sv tx to : Int → Int} {n ik kr ks L sp nu rd sm : Int} {K : Option Value → pS → Prop} (ok : okF f) : ∀ (m : Nat) {S : pS} {ti : Int → Int} (W : MW S B f hs sl sv ti tx to n ik kr ks L sp nu rd) {j : Int}, 0 ≤ j → j + m = 20412 → (∀ x, 0 ≤ x → x < j → ti x = if wiE (f 0) (x / 1458 % 7 - 3) = x / 10206 then 0 else 99) → (∀ T g, MW T B f hs sl sv g tx to n ik kr ks L sp nu rd → frM S T B → (∀ x, 0 ≤ x → x < 20412 → g x = if wiE (f 0) (x / 1458 % 7 - 3) = x / 10206 then 0 else 99) → Jd yX10_knows cX10_knows 6 none 5 0 0 K 0 0 T 132 [some (.ref (B 0)), some (.int (iI sm)), some (.int (iI (ruF f))), some (.int (iI 1)), none, none] []) → Jd yX10_knows cX10_knows 6 none 5 0 0 K 0 0 S 75 [some (.ref (B 0)), some (.int (iI sm)), some (.int (iI (ruF f))), some (.int (iI j)), none, none] [] := by
  intro m
  induction m with
  | zero =>
    intro S ti W j h0 h1 hg hK
    exact kn_fx W (by omega) (fun T1 W1 r1 => hK T1 ti W1 r1 (fun x x0 x1 => hg x x0 (by omega)))
  | succ m ih =>
    intro S ti W j h0 h1 hg hK
    refine kn_f W ok h0 (by omega) (fun T1 g1 W1 r1 e1 => ?_)
    refine ih W1 (by omega) (by omega) (fun x x0 x1 => ?_) (fun T2 g2 W2 r2 e2 => hK T2 g2 W2 (frM.tr r1 r2) e2)
    rw [e1]
    by_cases e : x = j
    · rw [e, uZ_e]
    · rw [uZ_n e]
      exact hg x x0 (by omega)
set_option maxHeartbeats 1000000 in
set_option maxRecDepth 20000 in
theorem kn_r {S : pS} {B : Nat → Nat} {f hs sl sv ti tx to : Int → Int} {n ik kr ks L sp nu rd : Int} (W : MW S B f hs sl sv ti tx to n ik kr ks L sp nu rd) {K : Option Value → pS → Prop} {sm : Int} {k : Nat} (R : okR (f 0) (f 1) (f 2) (f 3) sm) (hk : k ≤ 7) (hI : RS (f 0) (f 1) (f 2) (f 3) sm k ti) (k9 : ∀ T g, MW T B f hs sl sv g tx to n ik kr ks L sp nu rd → frM S T B → RS (f 0) (f 1) (f 2) (f 3) sm (k + 1) g → Jd yX10_knows cX10_knows 6 none 5 0 0 K 0 0 T 132 [some (.ref (B 0)), some (.int (iI sm)), some (.int (iI (ruF f))), some (.int (iI (((k + 1 : Nat) : Int) + 1))), none, none] []) : Jd yX10_knows cX10_knows 6 none 5 0 0 K 0 0 S 132 [some (.ref (B 0)), some (.int (iI sm)), some (.int (iI (ruF f))), some (.int (iI ((k : Int) + 1))), none, none] [] := by
  refine J_iload_n (pc1 := 133) rfl (i := 3) rfl dX10_knows_132 rfl ?_
  refine J_bipush (pc1 := 135) (by decide) dX10_knows_133 rfl ?_
  refine J_icmp_gt (pc1 := 138) (tgt := 150) (by omega) (by omega) (by decide) (by decide) dX10_knows_135 rfl rfl (fun hc1 => ?_) (fun hc1 => ?_)
  · exact absurd hc1 (by omega)
  · refine J_aload_n (pc1 := 139) rfl (i := 0) rfl dX10_knows_138 rfl ?_
    refine J_iload_n (pc1 := 140) rfl (i := 1) rfl dX10_knows_139 rfl ?_
    refine J_iload_n (pc1 := 141) rfl (i := 3) rfl dX10_knows_140 rfl ?_
    refine J_callVNs (pc1 := 144) (As := [.int (iI sm), .int (iI ((k : Int) + 1))]) gv_X10_82 yv_X10_worksOutAll rfl (c_X10_worksOutAll ⟨W.1, W.2.1, W.2.2.1, W.2.2.2.1, W.2.2.2.2.1, W.2.2.2.2.2.1, W.2.2.2.2.2.2.1, W.2.2.2.2.2.2.2⟩ R hk (RS_RI R hk hI)) dX10_knows_141 rfl W.1 rfl rfl (by omega) (by decide) (by omega) (by omega) (Nat.le_of_ble_eq_true rfl) (fun T1 hT1 => ?_)
    obtain ⟨g1, W1, r1, I1⟩ := hT1
    refine J_iinc (pc1 := 147) (L1 := [some (.ref (B 0)), some (.int (iI sm)), some (.int (iI (ruF f))), some (.int (iI (((k : Int) + 1) + 1))), none, none]) dX10_knows_144 rfl rfl (by decide) rfl rfl ?_
    refine J_goto (tgt := 132) dX10_knows_147 rfl ?_
    refine J_L (L1 := [some (.ref (B 0)), some (.int (iI sm)), some (.int (iI (ruF f))), some (.int (iI (((k + 1 : Nat) : Int) + 1))), none, none]) (by rw [show (((k + 1 : Nat) : Int) + 1) = (k : Int) + 1 + 1 by omega]) ?_
    exact k9 T1 g1 W1 r1 I1
set_option maxHeartbeats 1000000 in
set_option maxRecDepth 20000 in
theorem kn_x {S : pS} {B : Nat → Nat} {f hs sl sv ti tx to : Int → Int} {n ik kr ks L sp nu rd : Int} (W : MW S B f hs sl sv ti tx to n ik kr ks L sp nu rd) {K : Option Value → pS → Prop} {sm : Int} {k : Nat} (h1 : k = 8) (hK : ∀ T, MW T B f hs sl sv ti tx to n 1 (ruF f) sm L sp nu rd → frM S T B → K none T)  : Jd yX10_knows cX10_knows 6 none 5 0 0 K 0 0 S 132 [some (.ref (B 0)), some (.int (iI sm)), some (.int (iI (ruF f))), some (.int (iI ((k : Int) + 1))), none, none] [] := by
  show Jd yX10_knows cX10_knows 6 none 5 0 0 K 0 0 S 132 [some (.ref (B 0)), some (.int (iI sm)), some (.int (iI (ruF f))), some (.int (iI ((k : Int) + 1))), none, none] []
  refine J_iload_n (pc1 := 133) rfl (i := 3) rfl dX10_knows_132 rfl ?_
  refine J_bipush (pc1 := 135) (by decide) dX10_knows_133 rfl ?_
  refine J_icmp_gt (pc1 := 138) (tgt := 150) (by omega) (by omega) (by decide) (by decide) dX10_knows_135 rfl rfl (fun hc1 => ?_) (fun hc1 => ?_)
  · refine J_aload_n (pc1 := 151) rfl (i := 0) rfl dX10_knows_150 rfl ?_
    refine J_iconst (pc1 := 152) dX10_knows_151 rfl ?_
    refine J_put (pc1 := 155) (ty := .int) (j := 6) (fs1 := [.ref (B 1), .ref (B 2), .int (iI n), .ref (B 3), .ref (B 4), .ref (B 5), .int (iI 1), .int (iI kr), .int (iI ks), .ref (B 6), .int (iI L), .int (iI sp), .int (iI nu), .ref (B 7), .int (iI rd)]) inUX10 (ci := 10) rfl (by decide) tyX10 tyX10_ok nmX10 rfl (by decide +kernel) lf_X10_73 dX10_knows_152 rfl W.1 rfl (by rfl) (Nat.le_of_ble_eq_true rfl) rfl ?_
    refine J_aload_n (pc1 := 156) rfl (i := 0) rfl dX10_knows_155 rfl ?_
    refine J_iload_n (pc1 := 157) rfl (i := 2) rfl dX10_knows_156 rfl ?_
    refine J_put (pc1 := 160) (ty := .int) (j := 7) (fs1 := [.ref (B 1), .ref (B 2), .int (iI n), .ref (B 3), .ref (B 4), .ref (B 5), .int (iI 1), .int (iI (ruF f)), .int (iI ks), .ref (B 6), .int (iI L), .int (iI sp), .int (iI nu), .ref (B 7), .int (iI rd)]) inUX10 (ci := 10) rfl (by decide) tyX10 tyX10_ok nmX10 rfl (by decide +kernel) lf_X10_76 dX10_knows_157 rfl (pu_self _ _ _) rfl (by rfl) (Nat.le_of_ble_eq_true rfl) rfl ?_
    rw [pu_pu]
    refine J_aload_n (pc1 := 161) rfl (i := 0) rfl dX10_knows_160 rfl ?_
    refine J_iload_n (pc1 := 162) rfl (i := 1) rfl dX10_knows_161 rfl ?_
    refine J_put (pc1 := 165) (ty := .int) (j := 8) (fs1 := [.ref (B 1), .ref (B 2), .int (iI n), .ref (B 3), .ref (B 4), .ref (B 5), .int (iI 1), .int (iI (ruF f)), .int (iI sm), .ref (B 6), .int (iI L), .int (iI sp), .int (iI nu), .ref (B 7), .int (iI rd)]) inUX10 (ci := 10) rfl (by decide) tyX10 tyX10_ok nmX10 rfl (by decide +kernel) lf_X10_79 dX10_knows_162 rfl (pu_self _ _ _) rfl (by rfl) (Nat.le_of_ble_eq_true rfl) rfl ?_
    rw [pu_pu]
    exact J_vret rfl dX10_knows_165 (Nat.le_refl _) (Nat.le_refl _) (hK _ ⟨(pu_self _ _ _), ((pu_ne _ _ (ne_IO W.2.1 W.1)).trans W.2.1), ((pu_ne _ _ (ne_IO W.2.2.1 W.1)).trans W.2.2.1), ((pu_ne _ _ (ne_IO W.2.2.2.1 W.1)).trans W.2.2.2.1), ((pu_ne _ _ (ne_IO W.2.2.2.2.1 W.1)).trans W.2.2.2.2.1), ((pu_ne _ _ (ne_IO W.2.2.2.2.2.1 W.1)).trans W.2.2.2.2.2.1), ((pu_ne _ _ (ne_IO W.2.2.2.2.2.2.1 W.1)).trans W.2.2.2.2.2.2.1), ((pu_ne _ _ (ne_IO W.2.2.2.2.2.2.2 W.1)).trans W.2.2.2.2.2.2.2)⟩ (fun x h0 h1 h2 h3 h4 h5 h6 h7 => (pu_ne _ _ h0)))
  · exact absurd hc1 (by omega)
theorem kn_rl {B : Nat → Nat} {f hs sl sv tx to : Int → Int} {n ik kr ks L sp nu rd sm : Int} {K : Option Value → pS → Prop} (R : okR (f 0) (f 1) (f 2) (f 3) sm) : ∀ (m : Nat) {k : Nat} {S : pS} {ti : Int → Int} (W : MW S B f hs sl sv ti tx to n ik kr ks L sp nu rd), k + m = 8 → RS (f 0) (f 1) (f 2) (f 3) sm k ti → (∀ T g, MW T B f hs sl sv g tx to n 1 (ruF f) sm L sp nu rd → frM S T B → RS (f 0) (f 1) (f 2) (f 3) sm 8 g → K none T) → Jd yX10_knows cX10_knows 6 none 5 0 0 K 0 0 S 132 [some (.ref (B 0)), some (.int (iI sm)), some (.int (iI (ruF f))), some (.int (iI ((k : Int) + 1))), none, none] [] := by
  intro m
  induction m with
  | zero =>
    intro k S ti W h hI hK
    have e : k = 8 := by omega
    subst e
    exact kn_x W rfl (fun T1 W1 r1 => hK T1 ti W1 r1 hI)
  | succ m ih =>
    intro k S ti W h hI hK
    refine kn_r W R (by omega) hI (fun T1 g1 W1 r1 I1 => ?_)
    exact ih W1 (by omega) I1 (fun T2 g2 W2 r2 I2 => hK T2 g2 W2 (frM.tr r1 r2) I2)
theorem c_X10_knows {S : pS} {B : Nat → Nat} {f hs sl sv ti tx to : Int → Int} {n ik kr ks L sp nu rd : Int} (W : MW S B f hs sl sv ti tx to n ik kr ks L sp nu rd) {sm : Int} (ok : okF f) (hs9 : -100 ≤ sm ∧ sm ≤ 20) (C : CK ti ik kr ks) : Ct yX10_knows cX10_knows 6 none 5 0 0 [.ref (B 0), .int (iI sm)] S (kNS (fun T => ∃ (ti' : Int → Int) (ik' kr' ks' : Int), MW T B f hs sl sv ti' tx to n ik' kr' ks' L sp nu rd ∧ TOK (f 0) (f 1) (f 2) (f 3) sm ti' ∧ CK ti' ik' kr' ks' ∧ frM S T B)) := by
  refine Ct.ofJ (by decide +kernel) (Nat.le_of_ble_eq_true rfl) ?_
  refine J_L (L1 := [some (.ref (B 0)), some (.int (iI sm)), none, none, none, none]) rfl ?_
  have R := ok_R ok hs9
  by_cases hh : (ik = 1 ∧ kr = ruF f ∧ (f 2 = 1 ∨ ks = sm))
  · exact kn_h W ok hs9 C hh ⟨rfl, ti, ik, kr, ks, W, CK_hit ok C hh, C, frM.rf⟩
  · refine kn_m W ok hs9 C hh ?_
    refine kn_fl ok 20412 W (j := 0) (by decide) (by decide) (fun x x0 x1 => by omega) (fun T1 g1 W1 r1 e1 => ?_)
    refine kn_rl R 8 (k := 0) W1 rfl (RS_0 R e1) (fun T2 g2 W2 r2 I2 => ?_)
    have hT := RS_T R I2
    exact ⟨rfl, g2, 1, ruF f, sm, W2, hT, CK_new ok hs9 hT, frM.tr r1 r2⟩
