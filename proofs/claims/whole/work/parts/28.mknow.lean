/-! 28.mknow: the reference's table, all of it -/
def DQ (E ln ps tn ks : Int) (k : Nat) (g : Int → Int) (C : Int → Int → Prop) : Prop := ∀ p h one ot fi : Int, vC E ln ps ks p h one ot fi → (-E < h ∧ h < E) → C one ot → FC E ln ps tn (k + 1) p h one ot fi → g (atF p h one ot fi) < (k : Int) + 2
theorem DQ_s {E ln ps tn ks : Int} {k : Nat} {g g' : Int → Int} {C C' : Int → Int → Prop} {a b : Int} (h : DQ E ln ps tn ks k g C) (l : ∀ x, g' x ≤ g x) (d : ∀ p h fi : Int, vC E ln ps ks p h a b fi → (-E < h ∧ h < E) → FC E ln ps tn (k + 1) p h a b fi → g' (atF p h a b fi) < (k : Int) + 2) (hC : ∀ p h one ot fi, vC E ln ps ks p h one ot fi → C' one ot → C one ot ∨ (one = a ∧ ot = b)) : DQ E ln ps tn ks k g' C' := by
  intro p hh one ot fi v h2 c q
  rcases hC _ _ _ _ _ v c with z | ⟨rfl, rfl⟩
  · exact Int.lt_of_le_of_lt (l _) (h _ _ _ _ _ v h2 z q)
  · exact d _ _ _ v h2 q
set_option maxHeartbeats 1000000 in
set_option maxRecDepth 20000 in
theorem wa0_s {S : pS} {ti : Int → Int} {B : Nat → Nat} {f hs sl sv tx to : Int → Int} {n ik kr ks L sp nu rd sm : Int} {k : Nat} (W : MW S B f hs sl sv ti tx to n ik kr ks L sp nu rd) {K : Option Value → pS → Prop} (R : okR (f 0) (f 1) (f 2) (f 3) sm) (hk : k ≤ 7) (hI : RI (f 0) (f 1) (f 2) (f 3) sm k ti) {one : Int} (h2 : f 2 = 0) (h0 : -f 1 ≤ one) (h1 : one ≤ sm + f 1) (k9 : ∀ T g, MW T B f hs sl sv g tx to n ik kr ks L sp nu rd → frM S T B → RI (f 0) (f 1) (f 2) (f 3) sm k g → (∀ p h fi : Int, vC (f 0) (f 1) (f 2) sm p h one (sm - one) fi → (-f 0 < h ∧ h < f 0) → FC (f 0) (f 1) (f 2) (f 3) (k + 1) p h one (sm - one) fi → g (atF p h one (sm - one) fi) < (k : Int) + 2) → (∀ x, g x ≤ ti x) → Jd yX10_worksOutAll cX10_worksOutAll 5 none 4 0 0 K 0 0 T 5 [some (.ref (B 0)), some (.int (iI sm)), some (.int (iI ((k : Int) + 1))), some (.int (iI (one + 1))), none] []) : Jd yX10_worksOutAll cX10_worksOutAll 5 none 4 0 0 K 0 0 S 5 [some (.ref (B 0)), some (.int (iI sm)), some (.int (iI ((k : Int) + 1))), some (.int (iI one)), none] [] := by
  have r1 := R.1
  have r2 := R.2.1
  have r3 := R.2.2.1
  have r5 := R.2.2.2.2
  refine J_iload_n (pc1 := 6) rfl (i := 3) rfl dX10_worksOutAll_5 rfl ?_
  refine J_aload_n (pc1 := 7) rfl (i := 0) rfl dX10_worksOutAll_6 rfl ?_
  refine J_get (pc1 := 10) (j := 0) inUX10 (ci := 10) rfl (by decide) lf_X10_7 dX10_worksOutAll_7 rfl W.1 rfl ?_
  refine J_iconst (pc1 := 11) dX10_worksOutAll_10 rfl ?_
  refine J_iald (pc1 := 12) dX10_worksOutAll_11 rfl W.2.1 (by omega) (by omega) (by omega) ?_
  refine J_if_ne (pc1 := 15) (tgt := 26) (by omega) (by omega) dX10_worksOutAll_12 rfl rfl (fun hc1 => ?_) (fun hc1 => ?_)
  · exact absurd hc1 (by omega)
  · refine J_iload_n (pc1 := 16) rfl (i := 1) rfl dX10_worksOutAll_15 rfl ?_
    refine J_aload_n (pc1 := 17) rfl (i := 0) rfl dX10_worksOutAll_16 rfl ?_
    refine J_get (pc1 := 20) (j := 0) inUX10 (ci := 10) rfl (by decide) lf_X10_7 dX10_worksOutAll_17 rfl W.1 rfl ?_
    refine J_iconst (pc1 := 21) dX10_worksOutAll_20 rfl ?_
    refine J_iald (pc1 := 22) dX10_worksOutAll_21 rfl W.2.1 (by omega) (by omega) (by omega) ?_
    refine J_iadd (pc1 := 23) dX10_worksOutAll_22 rfl ?_
    refine J_goto (tgt := 28) dX10_worksOutAll_23 rfl ?_
    refine J_icmp_gt (pc1 := 31) (tgt := 85) (by omega) (by omega) (by omega) (by omega) dX10_worksOutAll_28 rfl rfl (fun hc2 => ?_) (fun hc2 => ?_)
    · exact absurd hc2 (by omega)
    · refine J_aload_n (pc1 := 32) rfl (i := 0) rfl dX10_worksOutAll_31 rfl ?_
      refine J_get (pc1 := 35) (j := 0) inUX10 (ci := 10) rfl (by decide) lf_X10_7 dX10_worksOutAll_32 rfl W.1 rfl ?_
      refine J_iconst (pc1 := 36) dX10_worksOutAll_35 rfl ?_
      refine J_iald (pc1 := 37) dX10_worksOutAll_36 rfl W.2.1 (by omega) (by omega) (by omega) ?_
      refine J_if_ne (pc1 := 40) (tgt := 52) (by omega) (by omega) dX10_worksOutAll_37 rfl rfl (fun hc3 => ?_) (fun hc3 => ?_)
      · exact absurd hc3 (by omega)
      · refine J_aload_n (pc1 := 41) rfl (i := 0) rfl dX10_worksOutAll_40 rfl ?_
        refine J_iload_n (pc1 := 42) rfl (i := 3) rfl dX10_worksOutAll_41 rfl ?_
        refine J_iload_n (pc1 := 43) rfl (i := 1) rfl dX10_worksOutAll_42 rfl ?_
        refine J_iload_n (pc1 := 44) rfl (i := 3) rfl dX10_worksOutAll_43 rfl ?_
        refine J_isub (pc1 := 45) dX10_worksOutAll_44 rfl ?_
        refine J_iload_n (pc1 := 46) rfl (i := 2) rfl dX10_worksOutAll_45 rfl ?_
        refine J_callVNs (pc1 := 49) (As := [.int (iI one), .int (iI (sm - one)), .int (iI ((k : Int) + 1))]) gv_X10_69 yv_X10_worksOut rfl (c_X10_worksOut ⟨W.1, W.2.1, W.2.2.1, W.2.2.2.1, W.2.2.2.2.1, W.2.2.2.2.2.1, W.2.2.2.2.2.2.1, W.2.2.2.2.2.2.2⟩ R hk (one := one) (ot := sm - one) ⟨by omega, by omega, fun _ => by omega, fun q => by omega⟩ hI) dX10_worksOutAll_46 rfl W.1 rfl rfl (by omega) (by decide) (by omega) (by omega) (Nat.le_of_ble_eq_true rfl) (fun T1 hT1 => ?_)
        obtain ⟨g1, W1, r1, I1, D1, l1⟩ := hT1
        refine J_goto (tgt := 79) dX10_worksOutAll_49 rfl ?_
        refine J_iinc (pc1 := 82) (L1 := [some (.ref (B 0)), some (.int (iI sm)), some (.int (iI ((k : Int) + 1))), some (.int (iI (one + 1))), none]) dX10_worksOutAll_79 rfl rfl (by decide) rfl rfl ?_
        refine J_goto (tgt := 5) dX10_worksOutAll_82 rfl ?_
        exact k9 T1 g1 W1 r1 I1 D1 l1
set_option maxHeartbeats 1000000 in
set_option maxRecDepth 20000 in
theorem wa1_o {S : pS} {ti : Int → Int} {B : Nat → Nat} {f hs sl sv tx to : Int → Int} {n ik kr ks L sp nu rd sm : Int} {k : Nat} (W : MW S B f hs sl sv ti tx to n ik kr ks L sp nu rd) {K : Option Value → pS → Prop} (R : okR (f 0) (f 1) (f 2) (f 3) sm) (hk : k ≤ 7) (hI : RI (f 0) (f 1) (f 2) (f 3) sm k ti) {one : Int} (h2 : f 2 = 1) (h0 : -f 1 ≤ one) (h1 : one ≤ 6) (k9 : Jd yX10_worksOutAll cX10_worksOutAll 5 none 4 0 0 K 0 0 S 58 [some (.ref (B 0)), some (.int (iI sm)), some (.int (iI ((k : Int) + 1))), some (.int (iI one)), some (.int (iI (-f 1)))] []) : Jd yX10_worksOutAll cX10_worksOutAll 5 none 4 0 0 K 0 0 S 5 [some (.ref (B 0)), some (.int (iI sm)), some (.int (iI ((k : Int) + 1))), some (.int (iI one)), none] [] := by
  have r1 := R.1
  have r2 := R.2.1
  have r3 := R.2.2.1
  have r5 := R.2.2.2.2
  refine J_iload_n (pc1 := 6) rfl (i := 3) rfl dX10_worksOutAll_5 rfl ?_
  refine J_aload_n (pc1 := 7) rfl (i := 0) rfl dX10_worksOutAll_6 rfl ?_
  refine J_get (pc1 := 10) (j := 0) inUX10 (ci := 10) rfl (by decide) lf_X10_7 dX10_worksOutAll_7 rfl W.1 rfl ?_
  refine J_iconst (pc1 := 11) dX10_worksOutAll_10 rfl ?_
  refine J_iald (pc1 := 12) dX10_worksOutAll_11 rfl W.2.1 (by omega) (by omega) (by omega) ?_
  refine J_if_ne (pc1 := 15) (tgt := 26) (by omega) (by omega) dX10_worksOutAll_12 rfl rfl (fun hc1 => ?_) (fun hc1 => ?_)
  · refine J_bipush (pc1 := 28) (by decide) dX10_worksOutAll_26 rfl ?_
    refine J_icmp_gt (pc1 := 31) (tgt := 85) (by omega) (by omega) (by decide) (by decide) dX10_worksOutAll_28 rfl rfl (fun hc2 => ?_) (fun hc2 => ?_)
    · exact absurd hc2 (by omega)
    · refine J_aload_n (pc1 := 32) rfl (i := 0) rfl dX10_worksOutAll_31 rfl ?_
      refine J_get (pc1 := 35) (j := 0) inUX10 (ci := 10) rfl (by decide) lf_X10_7 dX10_worksOutAll_32 rfl W.1 rfl ?_
      refine J_iconst (pc1 := 36) dX10_worksOutAll_35 rfl ?_
      refine J_iald (pc1 := 37) dX10_worksOutAll_36 rfl W.2.1 (by omega) (by omega) (by omega) ?_
      refine J_if_ne (pc1 := 40) (tgt := 52) (by omega) (by omega) dX10_worksOutAll_37 rfl rfl (fun hc3 => ?_) (fun hc3 => ?_)
      · refine J_aload_n (pc1 := 53) rfl (i := 0) rfl dX10_worksOutAll_52 rfl ?_
        refine J_callVI (pc1 := 56) (As := []) gv_X10_65 yv_X10_lowest rfl (c_X10_lowest ⟨W.1, W.2.1, W.2.2.1, W.2.2.2.1, W.2.2.2.2.1, W.2.2.2.2.2.1, W.2.2.2.2.2.2.1, W.2.2.2.2.2.2.2⟩) dX10_worksOutAll_53 rfl W.1 rfl rfl (by omega) (by decide) (by omega) (by omega) (Nat.le_of_ble_eq_true rfl) ?_
        refine J_istore (pc1 := 58) (L1 := [some (.ref (B 0)), some (.int (iI sm)), some (.int (iI ((k : Int) + 1))), some (.int (iI one)), some (.int (iI (-f 1)))]) dX10_worksOutAll_56 rfl (by decide) rfl rfl ?_
        exact k9
      · exact absurd hc3 (by omega)
  · exact absurd hc1 (by omega)
set_option maxHeartbeats 1000000 in
set_option maxRecDepth 20000 in
theorem wa1_i {S : pS} {ti : Int → Int} {B : Nat → Nat} {f hs sl sv tx to : Int → Int} {n ik kr ks L sp nu rd sm : Int} {k : Nat} (W : MW S B f hs sl sv ti tx to n ik kr ks L sp nu rd) {K : Option Value → pS → Prop} (R : okR (f 0) (f 1) (f 2) (f 3) sm) (hk : k ≤ 7) (hI : RI (f 0) (f 1) (f 2) (f 3) sm k ti) {one ot : Int} (h2 : f 2 = 1) (h0 : -f 1 ≤ one) (h1 : one ≤ 6) (h3 : -f 1 ≤ ot) (h4 : ot ≤ 6) (k9 : ∀ T g, MW T B f hs sl sv g tx to n ik kr ks L sp nu rd → frM S T B → RI (f 0) (f 1) (f 2) (f 3) sm k g → (∀ p h fi : Int, vC (f 0) (f 1) (f 2) sm p h one ot fi → (-f 0 < h ∧ h < f 0) → FC (f 0) (f 1) (f 2) (f 3) (k + 1) p h one ot fi → g (atF p h one ot fi) < (k : Int) + 2) → (∀ x, g x ≤ ti x) → Jd yX10_worksOutAll cX10_worksOutAll 5 none 4 0 0 K 0 0 T 58 [some (.ref (B 0)), some (.int (iI sm)), some (.int (iI ((k : Int) + 1))), some (.int (iI one)), some (.int (iI (ot + 1)))] []) : Jd yX10_worksOutAll cX10_worksOutAll 5 none 4 0 0 K 0 0 S 58 [some (.ref (B 0)), some (.int (iI sm)), some (.int (iI ((k : Int) + 1))), some (.int (iI one)), some (.int (iI ot))] [] := by
  have r1 := R.1
  have r2 := R.2.1
  have r3 := R.2.2.1
  have r5 := R.2.2.2.2
  refine J_iload (pc1 := 60) rfl dX10_worksOutAll_58 rfl ?_
  refine J_bipush (pc1 := 62) (by decide) dX10_worksOutAll_60 rfl ?_
  refine J_icmp_gt (pc1 := 65) (tgt := 79) (by omega) (by omega) (by decide) (by decide) dX10_worksOutAll_62 rfl rfl (fun hc1 => ?_) (fun hc1 => ?_)
  · exact absurd hc1 (by omega)
  · refine J_aload_n (pc1 := 66) rfl (i := 0) rfl dX10_worksOutAll_65 rfl ?_
    refine J_iload_n (pc1 := 67) rfl (i := 3) rfl dX10_worksOutAll_66 rfl ?_
    refine J_iload (pc1 := 69) rfl dX10_worksOutAll_67 rfl ?_
    refine J_iload_n (pc1 := 70) rfl (i := 2) rfl dX10_worksOutAll_69 rfl ?_
    refine J_callVNs (pc1 := 73) (As := [.int (iI one), .int (iI ot), .int (iI ((k : Int) + 1))]) gv_X10_69 yv_X10_worksOut rfl (c_X10_worksOut ⟨W.1, W.2.1, W.2.2.1, W.2.2.2.1, W.2.2.2.2.1, W.2.2.2.2.2.1, W.2.2.2.2.2.2.1, W.2.2.2.2.2.2.2⟩ R hk (one := one) (ot := ot) ⟨by omega, by omega, fun _ => by omega, fun q => by omega⟩ hI) dX10_worksOutAll_70 rfl W.1 rfl rfl (by omega) (by decide) (by omega) (by omega) (Nat.le_of_ble_eq_true rfl) (fun T1 hT1 => ?_)
    obtain ⟨g1, W1, r1, I1, D1, l1⟩ := hT1
    refine J_iinc (pc1 := 76) (L1 := [some (.ref (B 0)), some (.int (iI sm)), some (.int (iI ((k : Int) + 1))), some (.int (iI one)), some (.int (iI (ot + 1)))]) dX10_worksOutAll_73 rfl rfl (by decide) rfl rfl ?_
    refine J_goto (tgt := 58) dX10_worksOutAll_76 rfl ?_
    exact k9 T1 g1 W1 r1 I1 D1 l1
set_option maxHeartbeats 1000000 in
set_option maxRecDepth 20000 in
theorem wa1_j {S : pS} {ti : Int → Int} {B : Nat → Nat} {f hs sl sv tx to : Int → Int} {n ik kr ks L sp nu rd sm : Int} {k : Nat} (W : MW S B f hs sl sv ti tx to n ik kr ks L sp nu rd) {K : Option Value → pS → Prop} (R : okR (f 0) (f 1) (f 2) (f 3) sm) (hk : k ≤ 7) (hI : RI (f 0) (f 1) (f 2) (f 3) sm k ti) {one ot : Int} (h0 : -f 1 ≤ one) (h1 : one ≤ 6) (h3 : ot = 7) (k9 : Jd yX10_worksOutAll cX10_worksOutAll 5 none 4 0 0 K 0 0 S 5 [some (.ref (B 0)), some (.int (iI sm)), some (.int (iI ((k : Int) + 1))), some (.int (iI (one + 1))), none] []) : Jd yX10_worksOutAll cX10_worksOutAll 5 none 4 0 0 K 0 0 S 58 [some (.ref (B 0)), some (.int (iI sm)), some (.int (iI ((k : Int) + 1))), some (.int (iI one)), some (.int (iI ot))] [] := by
  have r1 := R.1
  have r2 := R.2.1
  have r3 := R.2.2.1
  have r5 := R.2.2.2.2
  refine J_iload (pc1 := 60) rfl dX10_worksOutAll_58 rfl ?_
  refine J_bipush (pc1 := 62) (by decide) dX10_worksOutAll_60 rfl ?_
  refine J_icmp_gt (pc1 := 65) (tgt := 79) (by omega) (by omega) (by decide) (by decide) dX10_worksOutAll_62 rfl rfl (fun hc1 => ?_) (fun hc1 => ?_)
  · refine J_iinc (pc1 := 82) (L1 := [some (.ref (B 0)), some (.int (iI sm)), some (.int (iI ((k : Int) + 1))), some (.int (iI (one + 1))), some (.int (iI ot))]) dX10_worksOutAll_79 rfl rfl (by decide) rfl rfl ?_
    refine J_goto (tgt := 5) dX10_worksOutAll_82 rfl ?_
    refine J_sub (L1 := [some (.ref (B 0)), some (.int (iI sm)), some (.int (iI ((k : Int) + 1))), some (.int (iI (one + 1))), none]) ⟨rfl, rfl, rfl, rfl, trivial⟩ ?_
    exact k9
  · exact absurd hc1 (by omega)
set_option maxHeartbeats 1000000 in
set_option maxRecDepth 20000 in
theorem wa0_x {S : pS} {ti : Int → Int} {B : Nat → Nat} {f hs sl sv tx to : Int → Int} {n ik kr ks L sp nu rd sm : Int} {k : Nat} (W : MW S B f hs sl sv ti tx to n ik kr ks L sp nu rd) {K : Option Value → pS → Prop} (R : okR (f 0) (f 1) (f 2) (f 3) sm) (hk : k ≤ 7) {one : Int} (h2 : f 2 = 0) (h1 : sm + f 1 < one) (h0 : one ≤ 100) (hK : K none S) : Jd yX10_worksOutAll cX10_worksOutAll 5 none 4 0 0 K 0 0 S 5 [some (.ref (B 0)), some (.int (iI sm)), some (.int (iI ((k : Int) + 1))), some (.int (iI one)), none] [] := by
  have r1 := R.1
  have r2 := R.2.1
  have r5 := R.2.2.2.2
  refine J_iload_n (pc1 := 6) rfl (i := 3) rfl dX10_worksOutAll_5 rfl ?_
  refine J_aload_n (pc1 := 7) rfl (i := 0) rfl dX10_worksOutAll_6 rfl ?_
  refine J_get (pc1 := 10) (j := 0) inUX10 (ci := 10) rfl (by decide) lf_X10_7 dX10_worksOutAll_7 rfl W.1 rfl ?_
  refine J_iconst (pc1 := 11) dX10_worksOutAll_10 rfl ?_
  refine J_iald (pc1 := 12) dX10_worksOutAll_11 rfl W.2.1 (by omega) (by omega) (by omega) ?_
  refine J_if_ne (pc1 := 15) (tgt := 26) (by omega) (by omega) dX10_worksOutAll_12 rfl rfl (fun hc1 => ?_) (fun hc1 => ?_)
  · exact absurd hc1 (by omega)
  · refine J_iload_n (pc1 := 16) rfl (i := 1) rfl dX10_worksOutAll_15 rfl ?_
    refine J_aload_n (pc1 := 17) rfl (i := 0) rfl dX10_worksOutAll_16 rfl ?_
    refine J_get (pc1 := 20) (j := 0) inUX10 (ci := 10) rfl (by decide) lf_X10_7 dX10_worksOutAll_17 rfl W.1 rfl ?_
    refine J_iconst (pc1 := 21) dX10_worksOutAll_20 rfl ?_
    refine J_iald (pc1 := 22) dX10_worksOutAll_21 rfl W.2.1 (by omega) (by omega) (by omega) ?_
    refine J_iadd (pc1 := 23) dX10_worksOutAll_22 rfl ?_
    refine J_goto (tgt := 28) dX10_worksOutAll_23 rfl ?_
    refine J_icmp_gt (pc1 := 31) (tgt := 85) (by omega) (by omega) (by omega) (by omega) dX10_worksOutAll_28 rfl rfl (fun hc2 => ?_) (fun hc2 => ?_)
    · exact J_vret rfl dX10_worksOutAll_85 (Nat.le_refl _) (Nat.le_refl _) (hK)
    · exact absurd hc2 (by omega)
set_option maxHeartbeats 1000000 in
set_option maxRecDepth 20000 in
theorem wa1_x {S : pS} {ti : Int → Int} {B : Nat → Nat} {f hs sl sv tx to : Int → Int} {n ik kr ks L sp nu rd sm : Int} {k : Nat} (W : MW S B f hs sl sv ti tx to n ik kr ks L sp nu rd) {K : Option Value → pS → Prop} (R : okR (f 0) (f 1) (f 2) (f 3) sm) (hk : k ≤ 7) {one : Int} (h2 : f 2 = 1) (h1 : one = 7) (hK : K none S) : Jd yX10_worksOutAll cX10_worksOutAll 5 none 4 0 0 K 0 0 S 5 [some (.ref (B 0)), some (.int (iI sm)), some (.int (iI ((k : Int) + 1))), some (.int (iI one)), none] [] := by
  have r1 := R.1
  have r2 := R.2.1
  have r5 := R.2.2.2.2
  refine J_iload_n (pc1 := 6) rfl (i := 3) rfl dX10_worksOutAll_5 rfl ?_
  refine J_aload_n (pc1 := 7) rfl (i := 0) rfl dX10_worksOutAll_6 rfl ?_
  refine J_get (pc1 := 10) (j := 0) inUX10 (ci := 10) rfl (by decide) lf_X10_7 dX10_worksOutAll_7 rfl W.1 rfl ?_
  refine J_iconst (pc1 := 11) dX10_worksOutAll_10 rfl ?_
  refine J_iald (pc1 := 12) dX10_worksOutAll_11 rfl W.2.1 (by omega) (by omega) (by omega) ?_
  refine J_if_ne (pc1 := 15) (tgt := 26) (by omega) (by omega) dX10_worksOutAll_12 rfl rfl (fun hc1 => ?_) (fun hc1 => ?_)
  · refine J_bipush (pc1 := 28) (by decide) dX10_worksOutAll_26 rfl ?_
    refine J_icmp_gt (pc1 := 31) (tgt := 85) (by omega) (by omega) (by decide) (by decide) dX10_worksOutAll_28 rfl rfl (fun hc2 => ?_) (fun hc2 => ?_)
    · exact J_vret rfl dX10_worksOutAll_85 (Nat.le_refl _) (Nat.le_refl _) (hK)
    · exact absurd hc2 (by omega)
  · exact absurd hc1 (by omega)
theorem wa0_l {B : Nat → Nat} {f hs sl sv tx to : Int → Int} {n ik kr ks L sp nu rd sm : Int} {k : Nat} {K : Option Value → pS → Prop} (R : okR (f 0) (f 1) (f 2) (f 3) sm) (hk : k ≤ 7) (h2 : f 2 = 0) : ∀ (m : Nat) {S : pS} {ti : Int → Int} (W : MW S B f hs sl sv ti tx to n ik kr ks L sp nu rd) {one : Int}, -f 1 ≤ one → one ≤ 100 → (one + m = sm + f 1 + 1 ∨ (m = 0 ∧ sm + f 1 < one)) → RI (f 0) (f 1) (f 2) (f 3) sm k ti → DQ (f 0) (f 1) (f 2) (f 3) sm k ti (fun a _ => a < one) → (∀ T g, MW T B f hs sl sv g tx to n ik kr ks L sp nu rd → frM S T B → RS (f 0) (f 1) (f 2) (f 3) sm (k + 1) g → K none T) → Jd yX10_worksOutAll cX10_worksOutAll 5 none 4 0 0 K 0 0 S 5 [some (.ref (B 0)), some (.int (iI sm)), some (.int (iI ((k : Int) + 1))), some (.int (iI one)), none] [] := by
  intro m
  induction m with
  | zero =>
    intro S ti W one h0 h9 h1 hI hD hK
    have r1 := R.1
    refine wa0_x W R hk h2 (by omega) h9 (hK S ti W frM.rf (RI_RS R hk hI (fun p hh a b fi v q1 q2 => hD p hh a b fi v q1 ?_ q2)))
    have v5 := v.2.2.2.2.1
    have v6 := v.2.2.2.2.2.1 h2
    show a < one
    omega
  | succ m ih =>
    intro S ti W one h0 h9 h1 hI hD hK
    have r2 := R.2.1
    have r5 := R.2.2.2.2
    refine wa0_s W R hk hI h2 h0 (by omega) (fun T1 g1 W1 r1 I1 D1 l1 => ?_)
    refine ih W1 (by omega) (by omega) (by omega) I1 (DQ_s hD l1 D1 (fun p hh a b fi v c => ?_)) (fun T2 g2 W2 r2 s2 => hK T2 g2 W2 (frM.tr r1 r2) s2)
    have v6 := v.2.2.2.2.2.1 h2
    have c : a < one + 1 := c
    rcases (show a < one ∨ a = one by omega) with z | z
    · exact Or.inl z
    · exact Or.inr ⟨z, by omega⟩
theorem wa1_il {B : Nat → Nat} {f hs sl sv tx to : Int → Int} {n ik kr ks L sp nu rd sm : Int} {k : Nat} {K : Option Value → pS → Prop} (R : okR (f 0) (f 1) (f 2) (f 3) sm) (hk : k ≤ 7) (h2 : f 2 = 1) {one : Int} (h0 : -f 1 ≤ one) (h1 : one ≤ 6) : ∀ (m : Nat) {S : pS} {ti : Int → Int} (W : MW S B f hs sl sv ti tx to n ik kr ks L sp nu rd) {ot : Int}, -f 1 ≤ ot → ot + m = 7 → RI (f 0) (f 1) (f 2) (f 3) sm k ti → DQ (f 0) (f 1) (f 2) (f 3) sm k ti (fun a b => a < one ∨ (a = one ∧ b < ot)) → (∀ T g, MW T B f hs sl sv g tx to n ik kr ks L sp nu rd → frM S T B → RI (f 0) (f 1) (f 2) (f 3) sm k g → DQ (f 0) (f 1) (f 2) (f 3) sm k g (fun a _ => a < one + 1) → Jd yX10_worksOutAll cX10_worksOutAll 5 none 4 0 0 K 0 0 T 5 [some (.ref (B 0)), some (.int (iI sm)), some (.int (iI ((k : Int) + 1))), some (.int (iI (one + 1))), none] []) → Jd yX10_worksOutAll cX10_worksOutAll 5 none 4 0 0 K 0 0 S 58 [some (.ref (B 0)), some (.int (iI sm)), some (.int (iI ((k : Int) + 1))), some (.int (iI one)), some (.int (iI ot))] [] := by
  intro m
  induction m with
  | zero =>
    intro S ti W ot h3 h4 hI hD hK
    refine wa1_j W R hk hI h0 h1 (by omega) (hK S ti W frM.rf hI (fun p hh a b fi v q1 c q2 => hD p hh a b fi v q1 ?_ q2))
    have v7 := v.2.2.2.2.2.2 h2
    have c : a < one + 1 := c
    show a < one ∨ (a = one ∧ b < ot)
    omega
  | succ m ih =>
    intro S ti W ot h3 h4 hI hD hK
    refine wa1_i W R hk hI h2 h0 h1 h3 (by omega) (fun T1 g1 W1 r1 I1 D1 l1 => ?_)
    refine ih W1 (by omega) (by omega) I1 (DQ_s hD l1 D1 (fun p hh a b fi v c => ?_)) (fun T2 g2 W2 r2 I2 D2 => hK T2 g2 W2 (frM.tr r1 r2) I2 D2)
    have c : a < one ∨ (a = one ∧ b < ot + 1) := c
    rcases (show (a < one ∨ (a = one ∧ b < ot)) ∨ (a = one ∧ b = ot) by omega) with z | z
    · exact Or.inl z
    · exact Or.inr z
theorem wa1_l {B : Nat → Nat} {f hs sl sv tx to : Int → Int} {n ik kr ks L sp nu rd sm : Int} {k : Nat} {K : Option Value → pS → Prop} (R : okR (f 0) (f 1) (f 2) (f 3) sm) (hk : k ≤ 7) (h2 : f 2 = 1) : ∀ (m : Nat) {S : pS} {ti : Int → Int} (W : MW S B f hs sl sv ti tx to n ik kr ks L sp nu rd) {one : Int}, -f 1 ≤ one → one + m = 7 → RI (f 0) (f 1) (f 2) (f 3) sm k ti → DQ (f 0) (f 1) (f 2) (f 3) sm k ti (fun a _ => a < one) → (∀ T g, MW T B f hs sl sv g tx to n ik kr ks L sp nu rd → frM S T B → RS (f 0) (f 1) (f 2) (f 3) sm (k + 1) g → K none T) → Jd yX10_worksOutAll cX10_worksOutAll 5 none 4 0 0 K 0 0 S 5 [some (.ref (B 0)), some (.int (iI sm)), some (.int (iI ((k : Int) + 1))), some (.int (iI one)), none] [] := by
  intro m
  induction m with
  | zero =>
    intro S ti W one h0 h1 hI hD hK
    refine wa1_x W R hk h2 (by omega) (hK S ti W frM.rf (RI_RS R hk hI (fun p hh a b fi v q1 q2 => hD p hh a b fi v q1 ?_ q2)))
    have v7 := v.2.2.2.2.2.2 h2
    show a < one
    omega
  | succ m ih =>
    intro S ti W one h0 h1 hI hD hK
    have r2 := R.2.1
    refine wa1_o W R hk hI h2 h0 (by omega) ?_
    refine wa1_il R hk h2 h0 (by omega) (7 + f 1).toNat W (ot := -f 1) (by omega) (by omega) hI (fun p hh a b fi v q1 c q2 => hD p hh a b fi v q1 ?_ q2) (fun T1 g1 W1 r1 I1 D1 => ?_)
    · have v5 := v.2.2.2.2.1
      have c : a < one ∨ (a = one ∧ b < -f 1) := c
      show a < one
      omega
    · exact ih W1 (by omega) (by omega) I1 D1 (fun T2 g2 W2 r2 s2 => hK T2 g2 W2 (frM.tr r1 r2) s2)
set_option maxHeartbeats 1000000 in
set_option maxRecDepth 20000 in
theorem c_X10_worksOutAll {S : pS} {ti : Int → Int} {B : Nat → Nat} {f hs sl sv tx to : Int → Int} {n ik kr ks L sp nu rd sm : Int} {k : Nat} (W : MW S B f hs sl sv ti tx to n ik kr ks L sp nu rd) (R : okR (f 0) (f 1) (f 2) (f 3) sm) (hk : k ≤ 7) (hI : RI (f 0) (f 1) (f 2) (f 3) sm k ti) : Ct yX10_worksOutAll cX10_worksOutAll 5 none 4 0 0 [.ref (B 0), .int (iI sm), .int (iI ((k : Int) + 1))] S (kNS (fun T => ∃ g, MW T B f hs sl sv g tx to n ik kr ks L sp nu rd ∧ frM S T B ∧ RS (f 0) (f 1) (f 2) (f 3) sm (k + 1) g)) := by
  refine Ct.ofJ (by decide +kernel) (Nat.le_of_ble_eq_true rfl) ?_
  refine J_L (L1 := [some (.ref (B 0)), some (.int (iI sm)), some (.int (iI ((k : Int) + 1))), none, none]) rfl ?_
  have r2 := R.2.1
  have r3 := R.2.2.1
  have r5 := R.2.2.2.2
  refine J_aload_n (pc1 := 1) rfl (i := 0) rfl dX10_worksOutAll_0 rfl ?_
  refine J_callVI (pc1 := 4) (As := []) gv_X10_65 yv_X10_lowest rfl (c_X10_lowest ⟨W.1, W.2.1, W.2.2.1, W.2.2.2.1, W.2.2.2.2.1, W.2.2.2.2.2.1, W.2.2.2.2.2.2.1, W.2.2.2.2.2.2.2⟩) dX10_worksOutAll_1 rfl W.1 rfl rfl (by omega) (by decide) (by omega) (by omega) (Nat.le_of_ble_eq_true rfl) ?_
  refine J_istore_n (pc1 := 5) (L1 := [some (.ref (B 0)), some (.int (iI sm)), some (.int (iI ((k : Int) + 1))), some (.int (iI (-f 1))), none]) rfl (i := 3) dX10_worksOutAll_4 rfl (by decide) rfl rfl ?_
  rcases r3 with h2 | h2
  · exact wa0_l R hk h2 (sm + 2 * f 1 + 1).toNat W (one := -f 1) (by omega) (by omega) (by omega) hI (fun p hh a b fi v q1 c q2 => absurd (show a < -f 1 from c) (by have := v.2.2.2.1; omega)) (fun T g W2 r2 s2 => ⟨rfl, g, W2, r2, s2⟩)
  · exact wa1_l R hk h2 (7 + f 1).toNat W (one := -f 1) (by omega) (by omega) hI (fun p hh a b fi v q1 c q2 => absurd (show a < -f 1 from c) (by have := v.2.2.2.1; omega)) (fun T g W2 r2 s2 => ⟨rfl, g, W2, r2, s2⟩)
