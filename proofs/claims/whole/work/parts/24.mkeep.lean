/-! 24.mkeep: the reference's history and slots; its calls that change the state -/
def hsOK (hs : Int → Int) (n : Nat) (H : Nat → Int → Int) : Prop := ∀ i : Nat, i < n → ∀ k : Int, 0 ≤ k → k < 19 → hs (19 * (i : Int) + k) = H i k
/-- 19 numbers copied to c, the first j of them -/
def Cpy (c j : Int) (v g0 g : Int → Int) : Prop := (∀ k, 0 ≤ k → k < j → g (c + k) = v k) ∧ ∀ i, (i < c ∨ c + 19 ≤ i) → g i = g0 i
theorem Cpy.z {c : Int} {v g0 : Int → Int} : Cpy c 0 v g0 g0 := ⟨fun k h0 h1 => by omega, fun _ _ => rfl⟩
theorem Cpy.s {c j z x : Int} {v g0 g : Int → Int} (hz : z = c + j) (hx : x = v j) (h0 : 0 ≤ j) (h1 : j < 19) (h : Cpy c j v g0 g) : Cpy c (j + 1) v g0 (uZ g z x) := by
  refine ⟨fun k k0 k1 => ?_, fun i hi => ?_⟩
  · by_cases e : k = j
    · subst e
      rw [hz, uZ_e, hx]
    · rw [uZ_n (by omega)]
      exact h.1 k k0 (by omega)
  · rw [uZ_n (by omega)]
    exact h.2 i hi
def rvT (t : Int) : Int := if t ≤ 8 then t else 99
/-- the times of all states with these rules, and this sum of hours where it counts -/
def TOK (E ln ps tn ks : Int) (ti : Int → Int) : Prop := ∀ p h one ot fi : Int, (p = 0 ∨ p = 1) → (fi = 0 ∨ fi = 1) → (-E ≤ h ∧ h ≤ E) → -ln ≤ one → -ln ≤ ot → (ps = 0 → one + ot = ks) → (ps = 1 → one ≤ 6 ∧ ot ≤ 6) →
  ti (atF p h one ot fi) = rvT (tT E tn ps (if p = 0 then E - h else E + h) ((if p = 0 then one else ot) + ln) ((if p = 0 then ot else one) + ln) (if fi = p then 1 else 0))
def CK (ti : Int → Int) (ik kr ks : Int) : Prop := ik = 0 ∨ (ik = 1 ∧ ∃ E ln ps tn : Int, (1 ≤ E ∧ E ≤ 3) ∧ (0 ≤ ln ∧ ln ≤ 2) ∧ (ps = 0 ∨ ps = 1) ∧ (tn = 0 ∨ tn = 1) ∧ (-100 ≤ ks ∧ ks ≤ 20) ∧ kr = 1000 * E + 100 * ln + 10 * ps + tn ∧ TOK E ln ps tn ks ti)
/-- the reference holds this state -/
def MS (S : pS) (B : Nat → Nat) (f f1 f2 : Int → Int) (b0 b1 : Int) (n : Nat) (H : Nat → Int → Int) (tx : Int → Int) (L : Nat) : Prop :=
  ∃ (hs sl sv ti to : Int → Int) (ik kr ks sp nu rd : Int), MW S B f hs sl sv ti tx to n ik kr ks L sp nu rd ∧ hsOK hs n H ∧ (b0 = 1 → ∀ k, 0 ≤ k → k < 19 → sl (0 + k) = f1 k) ∧ (b1 = 1 → ∀ k, 0 ≤ k → k < 19 → sl (19 + k) = f2 k) ∧ sv 0 = b0 ∧ sv 1 = b1 ∧ CK ti ik kr ks
theorem hs_1 {g hs : Int → Int} {H : Nat → Int → Int} {f : Int → Int} (h : ∀ k, 0 ≤ k → k < 95 → g k = hs (k + 19)) (hH : hsOK hs 6 H) {g' : Int → Int} (hc : Cpy (19 * (6 - 1)) 19 f g g') : hsOK g' 6 (kpH 6 f H) := by
  intro i hi k k0 k1
  unfold kpH
  rw [if_pos rfl]
  by_cases h5 : i < 5
  · rw [if_pos h5, hc.2 _ (by omega), h _ (by omega) (by omega), ← hH (i + 1) (by omega) k k0 k1]
    congr 1
    omega
  · rw [if_neg h5, ← hc.1 k k0 k1]
    congr 1
    omega
theorem hs_2 {hs g' : Int → Int} {n : Nat} {H : Nat → Int → Int} {f : Int → Int} (hn : n ≠ 6) (hH : hsOK hs n H) (hc : Cpy (19 * (n : Int)) 19 f hs g') : hsOK g' (n + 1) (kpH n f H) := by
  intro i hi k k0 k1
  unfold kpH
  rw [if_neg hn]
  by_cases e : i = n
  · rw [if_pos e, e]
    exact hc.1 k k0 k1
  · rw [if_neg e, hc.2 _ (by omega)]
    exact hH i (by omega) k k0 k1
set_option maxHeartbeats 1000000 in
set_option maxRecDepth 20000 in
theorem ch_1 {S : pS} {B : Nat → Nat} {f hs sl sv ti tx to : Int → Int} {n ik kr ks L sp nu rd : Int} (W : MW S B f hs sl sv ti tx to n ik kr ks L sp nu rd) {K : Option Value → pS → Prop} {j : Int} (h0 : 0 ≤ j) (h1 : j < 95) (k : ∀ T, MW T B f (uZ hs j (hs (j + 19))) sl sv ti tx to n ik kr ks L sp nu rd → frM S T B → Jd yX10_changes cX10_changes 2 none 0 0 0 K 0 0 T 11 [some (.ref (B 0)), some (.int (iI (j + 1)))] []) : Jd yX10_changes cX10_changes 2 none 0 0 0 K 0 0 S 11 [some (.ref (B 0)), some (.int (iI j))] [] := by
  show Jd yX10_changes cX10_changes 2 none 0 0 0 K 0 0 S 11 [some (.ref (B 0)), some (.int (iI j))] []
  refine J_iload_n (pc1 := 12) rfl (i := 1) rfl dX10_changes_11 rfl ?_
  refine J_bipush (pc1 := 14) (by decide) dX10_changes_12 rfl ?_
  refine J_icmp_ge (pc1 := 17) (tgt := 38) (by omega) (by omega) (by decide) (by decide) dX10_changes_14 rfl rfl (fun hc1 => ?_) (fun hc1 => ?_)
  · exact absurd hc1 (by omega)
  · refine J_aload_n (pc1 := 18) rfl (i := 0) rfl dX10_changes_17 rfl ?_
    refine J_get (pc1 := 21) (j := 1) inUX10 (ci := 10) rfl (by decide) lf_X10_13 dX10_changes_18 rfl W.1 rfl ?_
    refine J_iload_n (pc1 := 22) rfl (i := 1) rfl dX10_changes_21 rfl ?_
    refine J_aload_n (pc1 := 23) rfl (i := 0) rfl dX10_changes_22 rfl ?_
    refine J_get (pc1 := 26) (j := 1) inUX10 (ci := 10) rfl (by decide) lf_X10_13 dX10_changes_23 rfl W.1 rfl ?_
    refine J_iload_n (pc1 := 27) rfl (i := 1) rfl dX10_changes_26 rfl ?_
    refine J_bipush (pc1 := 29) (by decide) dX10_changes_27 rfl ?_
    refine J_iadd (pc1 := 30) dX10_changes_29 rfl ?_
    refine J_iald (pc1 := 31) dX10_changes_30 rfl W.2.2.1 (by omega) (by omega) (by omega) ?_
    refine J_iast (pc1 := 32) dX10_changes_31 rfl W.2.2.1 (by omega) (by omega) (by omega) ?_
    refine J_iinc (pc1 := 35) (L1 := [some (.ref (B 0)), some (.int (iI (j + 1)))]) dX10_changes_32 rfl rfl (by decide) rfl rfl ?_
    refine J_goto (tgt := 11) dX10_changes_35 rfl ?_
    exact k _ ⟨((pu_ne _ _ (ne_OI W.1 W.2.2.1)).trans W.1), ((pu_ne _ _ (ne_II W.2.1 W.2.2.1 (by decide))).trans W.2.1), (pu_self _ _ _), ((pu_ne _ _ (ne_II W.2.2.2.1 W.2.2.1 (by decide))).trans W.2.2.2.1), ((pu_ne _ _ (ne_II W.2.2.2.2.1 W.2.2.1 (by decide))).trans W.2.2.2.2.1), ((pu_ne _ _ (ne_II W.2.2.2.2.2.1 W.2.2.1 (by decide))).trans W.2.2.2.2.2.1), ((pu_ne _ _ (ne_II W.2.2.2.2.2.2.1 W.2.2.1 (by decide))).trans W.2.2.2.2.2.2.1), ((pu_ne _ _ (ne_II W.2.2.2.2.2.2.2 W.2.2.1 (by decide))).trans W.2.2.2.2.2.2.2)⟩ (fun x h0 h1 h2 h3 h4 h5 h6 h7 => (pu_ne _ _ h2))
set_option maxHeartbeats 1000000 in
set_option maxRecDepth 20000 in
theorem ch_1x {S : pS} {B : Nat → Nat} {f hs sl sv ti tx to : Int → Int} {n ik kr ks L sp nu rd : Int} (W : MW S B f hs sl sv ti tx to n ik kr ks L sp nu rd) {K : Option Value → pS → Prop} {j : Int} (h1 : j = 95) (k : ∀ T, MW T B f hs sl sv ti tx to (n - 1) ik kr ks L sp nu rd → frM S T B → Jd yX10_changes cX10_changes 2 none 0 0 0 K 0 0 T 50 [some (.ref (B 0)), some (.int (iI 0))] []) : Jd yX10_changes cX10_changes 2 none 0 0 0 K 0 0 S 11 [some (.ref (B 0)), some (.int (iI j))] [] := by
  show Jd yX10_changes cX10_changes 2 none 0 0 0 K 0 0 S 11 [some (.ref (B 0)), some (.int (iI j))] []
  refine J_iload_n (pc1 := 12) rfl (i := 1) rfl dX10_changes_11 rfl ?_
  refine J_bipush (pc1 := 14) (by decide) dX10_changes_12 rfl ?_
  refine J_icmp_ge (pc1 := 17) (tgt := 38) (by omega) (by omega) (by decide) (by decide) dX10_changes_14 rfl rfl (fun hc1 => ?_) (fun hc1 => ?_)
  · refine J_aload_n (pc1 := 39) rfl (i := 0) rfl dX10_changes_38 rfl ?_
    refine J_dup (pc1 := 40) rfl dX10_changes_39 rfl ?_
    refine J_get (pc1 := 43) (j := 2) inUX10 (ci := 10) rfl (by decide) lf_X10_34 dX10_changes_40 rfl W.1 rfl ?_
    refine J_iconst (pc1 := 44) dX10_changes_43 rfl ?_
    refine J_isub (pc1 := 45) dX10_changes_44 rfl ?_
    refine J_put (pc1 := 48) (ty := .int) (j := 2) (fs1 := [.ref (B 1), .ref (B 2), .int (iI (n - 1)), .ref (B 3), .ref (B 4), .ref (B 5), .int (iI ik), .int (iI kr), .int (iI ks), .ref (B 6), .int (iI L), .int (iI sp), .int (iI nu), .ref (B 7), .int (iI rd)]) inUX10 (ci := 10) rfl (by decide) tyX10 tyX10_ok nmX10 rfl (by decide +kernel) lf_X10_34 dX10_changes_45 rfl W.1 rfl (by rfl) (Nat.le_of_ble_eq_true rfl) rfl ?_
    refine J_iconst (pc1 := 49) dX10_changes_48 rfl ?_
    refine J_istore_n (pc1 := 50) (L1 := [some (.ref (B 0)), some (.int (iI 0))]) rfl (i := 1) dX10_changes_49 rfl (by decide) rfl rfl ?_
    exact k _ ⟨(pu_self _ _ _), ((pu_ne _ _ (ne_IO W.2.1 W.1)).trans W.2.1), ((pu_ne _ _ (ne_IO W.2.2.1 W.1)).trans W.2.2.1), ((pu_ne _ _ (ne_IO W.2.2.2.1 W.1)).trans W.2.2.2.1), ((pu_ne _ _ (ne_IO W.2.2.2.2.1 W.1)).trans W.2.2.2.2.1), ((pu_ne _ _ (ne_IO W.2.2.2.2.2.1 W.1)).trans W.2.2.2.2.2.1), ((pu_ne _ _ (ne_IO W.2.2.2.2.2.2.1 W.1)).trans W.2.2.2.2.2.2.1), ((pu_ne _ _ (ne_IO W.2.2.2.2.2.2.2 W.1)).trans W.2.2.2.2.2.2.2)⟩ (fun x h0 h1 h2 h3 h4 h5 h6 h7 => (pu_ne _ _ h0))
  · exact absurd hc1 (by omega)
theorem ch_1l {B : Nat → Nat} {f hs0 sl sv ti tx to : Int → Int} {n ik kr ks L sp nu rd : Int} {K : Option Value → pS → Prop} : ∀ (r : Nat) {S : pS} {hs : Int → Int} (W : MW S B f hs sl sv ti tx to n ik kr ks L sp nu rd) {j : Int}, 0 ≤ j → j + r = 95 → (∀ k, 0 ≤ k → k < j → hs k = hs0 (k + 19)) → (∀ k, j ≤ k → hs k = hs0 k) → (∀ T g, MW T B f g sl sv ti tx to (n - 1) ik kr ks L sp nu rd → frM S T B → (∀ k, 0 ≤ k → k < 95 → g k = hs0 (k + 19)) → Jd yX10_changes cX10_changes 2 none 0 0 0 K 0 0 T 50 [some (.ref (B 0)), some (.int (iI 0))] []) → Jd yX10_changes cX10_changes 2 none 0 0 0 K 0 0 S 11 [some (.ref (B 0)), some (.int (iI j))] [] := by
  intro r
  induction r with
  | zero =>
    intro S hs W j h0 h1 ha hb k
    exact ch_1x W (by omega) (fun T1 W1 r1 => k T1 hs W1 r1 (fun q q0 q1 => ha q q0 (by omega)))
  | succ r ih =>
    intro S hs W j h0 h1 ha hb k
    refine ch_1 W h0 (by omega) (fun T1 W1 r1 => ?_)
    refine ih W1 (by omega) (by omega) (fun q q0 q1 => ?_) (fun q q0 => ?_) (fun T2 g W2 r2 hc2 => k T2 g W2 (frM.tr r1 r2) hc2)
    · by_cases e : q = j
      · rw [e, uZ_e]
        exact hb _ (by omega)
      · rw [uZ_n e]
        exact ha q q0 (by omega)
    · rw [uZ_n (by omega)]
      exact hb q (by omega)
set_option maxHeartbeats 1000000 in
set_option maxRecDepth 20000 in
theorem ch_2_s {S : pS} {B : Nat → Nat} {f hs sl sv ti tx to : Int → Int} {n ik kr ks L sp nu rd : Int} (W : MW S B f hs sl sv ti tx to n ik kr ks L sp nu rd) {K : Option Value → pS → Prop} (hn : 0 ≤ n ∧ n ≤ 5) {j : Int} (h0 : 0 ≤ j) (h1 : j < 19) (k : ∀ T, MW T B f (uZ hs ((19 * n) + j) (f j)) sl sv ti tx to n ik kr ks L sp nu rd → frM S T B → Jd yX10_changes cX10_changes 2 none 0 0 0 K 0 0 T 50 [some (.ref (B 0)), some (.int (iI (j + 1)))] []) : Jd yX10_changes cX10_changes 2 none 0 0 0 K 0 0 S 50 [some (.ref (B 0)), some (.int (iI j))] [] := by
  show Jd yX10_changes cX10_changes 2 none 0 0 0 K 0 0 S 50 [some (.ref (B 0)), some (.int (iI j))] []
  refine J_iload_n (pc1 := 51) rfl (i := 1) rfl dX10_changes_50 rfl ?_
  refine J_bipush (pc1 := 53) (by decide) dX10_changes_51 rfl ?_
  refine J_icmp_ge (pc1 := 56) (tgt := 82) (by omega) (by omega) (by decide) (by decide) dX10_changes_53 rfl rfl (fun hc1 => ?_) (fun hc1 => ?_)
  · exact absurd hc1 (by omega)
  · refine J_aload_n (pc1 := 57) rfl (i := 0) rfl dX10_changes_56 rfl ?_
    refine J_get (pc1 := 60) (j := 1) inUX10 (ci := 10) rfl (by decide) lf_X10_13 dX10_changes_57 rfl W.1 rfl ?_
    refine J_bipush (pc1 := 62) (by decide) dX10_changes_60 rfl ?_
    refine J_aload_n (pc1 := 63) rfl (i := 0) rfl dX10_changes_62 rfl ?_
    refine J_get (pc1 := 66) (j := 2) inUX10 (ci := 10) rfl (by decide) lf_X10_34 dX10_changes_63 rfl W.1 rfl ?_
    refine J_imul (pc1 := 67) dX10_changes_66 rfl ?_
    refine J_iload_n (pc1 := 68) rfl (i := 1) rfl dX10_changes_67 rfl ?_
    refine J_iadd (pc1 := 69) dX10_changes_68 rfl ?_
    refine J_aload_n (pc1 := 70) rfl (i := 0) rfl dX10_changes_69 rfl ?_
    refine J_get (pc1 := 73) (j := 0) inUX10 (ci := 10) rfl (by decide) lf_X10_7 dX10_changes_70 rfl W.1 rfl ?_
    refine J_iload_n (pc1 := 74) rfl (i := 1) rfl dX10_changes_73 rfl ?_
    refine J_iald (pc1 := 75) dX10_changes_74 rfl W.2.1 (by omega) (by omega) (by omega) ?_
    refine J_iast (pc1 := 76) dX10_changes_75 rfl W.2.2.1 (by omega) (by omega) (by omega) ?_
    refine J_iinc (pc1 := 79) (L1 := [some (.ref (B 0)), some (.int (iI (j + 1)))]) dX10_changes_76 rfl rfl (by decide) rfl rfl ?_
    refine J_goto (tgt := 50) dX10_changes_79 rfl ?_
    exact k _ ⟨((pu_ne _ _ (ne_OI W.1 W.2.2.1)).trans W.1), ((pu_ne _ _ (ne_II W.2.1 W.2.2.1 (by decide))).trans W.2.1), (pu_self _ _ _), ((pu_ne _ _ (ne_II W.2.2.2.1 W.2.2.1 (by decide))).trans W.2.2.2.1), ((pu_ne _ _ (ne_II W.2.2.2.2.1 W.2.2.1 (by decide))).trans W.2.2.2.2.1), ((pu_ne _ _ (ne_II W.2.2.2.2.2.1 W.2.2.1 (by decide))).trans W.2.2.2.2.2.1), ((pu_ne _ _ (ne_II W.2.2.2.2.2.2.1 W.2.2.1 (by decide))).trans W.2.2.2.2.2.2.1), ((pu_ne _ _ (ne_II W.2.2.2.2.2.2.2 W.2.2.1 (by decide))).trans W.2.2.2.2.2.2.2)⟩ (fun x h0 h1 h2 h3 h4 h5 h6 h7 => (pu_ne _ _ h2))
theorem ch_2_l {B : Nat → Nat} {f sl sv ti tx to g0 : Int → Int} {n ik kr ks L sp nu rd : Int} {K : Option Value → pS → Prop} (hn : 0 ≤ n ∧ n ≤ 5) : ∀ (r : Nat) {S : pS} {hs : Int → Int} (W : MW S B f hs sl sv ti tx to n ik kr ks L sp nu rd) {j : Int}, 0 ≤ j → j + r = 19 → Cpy (19 * n) j f g0 hs → (∀ T g, MW T B f g sl sv ti tx to n ik kr ks L sp nu rd → frM S T B → Cpy (19 * n) 19 f g0 g → Jd yX10_changes cX10_changes 2 none 0 0 0 K 0 0 T 50 [some (.ref (B 0)), some (.int (iI 19))] []) → Jd yX10_changes cX10_changes 2 none 0 0 0 K 0 0 S 50 [some (.ref (B 0)), some (.int (iI j))] [] := by
  intro r
  induction r with
  | zero =>
    intro S hs W j h0 h1 hc k
    have e : j = 19 := by omega
    subst e
    exact k S hs W frM.rf hc
  | succ r ih =>
    intro S hs W j h0 h1 hc k
    refine ch_2_s W hn h0 (by omega) (fun T1 W1 r1 => ?_)
    exact ih W1 (by omega) (by omega) (Cpy.s (by omega) rfl h0 (by omega) hc) (fun T2 g W2 r2 hc2 => k T2 g W2 (frM.tr r1 r2) hc2)
set_option maxHeartbeats 1000000 in
set_option maxRecDepth 20000 in
theorem ch_2x {S : pS} {B : Nat → Nat} {f hs sl sv ti tx to : Int → Int} {n ik kr ks L sp nu rd : Int} (W : MW S B f hs sl sv ti tx to n ik kr ks L sp nu rd) {K : Option Value → pS → Prop} (hK : ∀ T, MW T B f hs sl sv ti tx to (n + 1) ik kr ks L sp nu rd → frM S T B → K none T)  : Jd yX10_changes cX10_changes 2 none 0 0 0 K 0 0 S 50 [some (.ref (B 0)), some (.int (iI 19))] [] := by
  show Jd yX10_changes cX10_changes 2 none 0 0 0 K 0 0 S 50 [some (.ref (B 0)), some (.int (iI 19))] []
  refine J_iload_n (pc1 := 51) rfl (i := 1) rfl dX10_changes_50 rfl ?_
  refine J_bipush (pc1 := 53) (by decide) dX10_changes_51 rfl ?_
  refine J_icmp_ge (pc1 := 56) (tgt := 82) (by decide) (by decide) (by decide) (by decide) dX10_changes_53 rfl rfl (fun hc1 => ?_) (fun hc1 => ?_)
  · refine J_aload_n (pc1 := 83) rfl (i := 0) rfl dX10_changes_82 rfl ?_
    refine J_dup (pc1 := 84) rfl dX10_changes_83 rfl ?_
    refine J_get (pc1 := 87) (j := 2) inUX10 (ci := 10) rfl (by decide) lf_X10_34 dX10_changes_84 rfl W.1 rfl ?_
    refine J_iconst (pc1 := 88) dX10_changes_87 rfl ?_
    refine J_iadd (pc1 := 89) dX10_changes_88 rfl ?_
    refine J_put (pc1 := 92) (ty := .int) (j := 2) (fs1 := [.ref (B 1), .ref (B 2), .int (iI (n + 1)), .ref (B 3), .ref (B 4), .ref (B 5), .int (iI ik), .int (iI kr), .int (iI ks), .ref (B 6), .int (iI L), .int (iI sp), .int (iI nu), .ref (B 7), .int (iI rd)]) inUX10 (ci := 10) rfl (by decide) tyX10 tyX10_ok nmX10 rfl (by decide +kernel) lf_X10_34 dX10_changes_89 rfl W.1 rfl (by rfl) (Nat.le_of_ble_eq_true rfl) rfl ?_
    exact J_vret rfl dX10_changes_92 (Nat.le_refl _) (Nat.le_refl _) (hK _ ⟨(pu_self _ _ _), ((pu_ne _ _ (ne_IO W.2.1 W.1)).trans W.2.1), ((pu_ne _ _ (ne_IO W.2.2.1 W.1)).trans W.2.2.1), ((pu_ne _ _ (ne_IO W.2.2.2.1 W.1)).trans W.2.2.2.1), ((pu_ne _ _ (ne_IO W.2.2.2.2.1 W.1)).trans W.2.2.2.2.1), ((pu_ne _ _ (ne_IO W.2.2.2.2.2.1 W.1)).trans W.2.2.2.2.2.1), ((pu_ne _ _ (ne_IO W.2.2.2.2.2.2.1 W.1)).trans W.2.2.2.2.2.2.1), ((pu_ne _ _ (ne_IO W.2.2.2.2.2.2.2 W.1)).trans W.2.2.2.2.2.2.2)⟩ (fun x h0 h1 h2 h3 h4 h5 h6 h7 => (pu_ne _ _ h0)))
  · exact absurd hc1 (by decide)
set_option maxHeartbeats 1000000 in
set_option maxRecDepth 20000 in
theorem ch_0 {S : pS} {B : Nat → Nat} {f hs sl sv ti tx to : Int → Int} {n ik kr ks L sp nu rd : Int} (W : MW S B f hs sl sv ti tx to n ik kr ks L sp nu rd) {K : Option Value → pS → Prop} (hn : n = 6) (k : ∀ T, MW T B f hs sl sv ti tx to n ik kr ks L sp nu rd → frM S T B → Jd yX10_changes cX10_changes 2 none 0 0 0 K 0 0 T 11 [some (.ref (B 0)), some (.int (iI 0))] []) : Jd yX10_changes cX10_changes 2 none 0 0 0 K 0 0 S 0 [some (.ref (B 0)), none] [] := by
  show Jd yX10_changes cX10_changes 2 none 0 0 0 K 0 0 S 0 [some (.ref (B 0)), none] []
  refine J_aload_n (pc1 := 1) rfl (i := 0) rfl dX10_changes_0 rfl ?_
  refine J_get (pc1 := 4) (j := 2) inUX10 (ci := 10) rfl (by decide) lf_X10_34 dX10_changes_1 rfl W.1 rfl ?_
  refine J_bipush (pc1 := 6) (by decide) dX10_changes_4 rfl ?_
  refine J_icmp_ne (pc1 := 9) (tgt := 48) (by omega) (by omega) (by decide) (by decide) dX10_changes_6 rfl rfl (fun hc1 => ?_) (fun hc1 => ?_)
  · exact absurd hn hc1
  · refine J_iconst (pc1 := 10) dX10_changes_9 rfl ?_
    refine J_istore_n (pc1 := 11) (L1 := [some (.ref (B 0)), some (.int (iI 0))]) rfl (i := 1) dX10_changes_10 rfl (by decide) rfl rfl ?_
    exact k _ ⟨W.1, W.2.1, W.2.2.1, W.2.2.2.1, W.2.2.2.2.1, W.2.2.2.2.2.1, W.2.2.2.2.2.2.1, W.2.2.2.2.2.2.2⟩ (fun x h0 h1 h2 h3 h4 h5 h6 h7 => rfl)
set_option maxHeartbeats 1000000 in
set_option maxRecDepth 20000 in
theorem ch_0n {S : pS} {B : Nat → Nat} {f hs sl sv ti tx to : Int → Int} {n ik kr ks L sp nu rd : Int} (W : MW S B f hs sl sv ti tx to n ik kr ks L sp nu rd) {K : Option Value → pS → Prop} (hn : 0 ≤ n ∧ n ≤ 5) (k : ∀ T, MW T B f hs sl sv ti tx to n ik kr ks L sp nu rd → frM S T B → Jd yX10_changes cX10_changes 2 none 0 0 0 K 0 0 T 50 [some (.ref (B 0)), some (.int (iI 0))] []) : Jd yX10_changes cX10_changes 2 none 0 0 0 K 0 0 S 0 [some (.ref (B 0)), none] [] := by
  show Jd yX10_changes cX10_changes 2 none 0 0 0 K 0 0 S 0 [some (.ref (B 0)), none] []
  refine J_aload_n (pc1 := 1) rfl (i := 0) rfl dX10_changes_0 rfl ?_
  refine J_get (pc1 := 4) (j := 2) inUX10 (ci := 10) rfl (by decide) lf_X10_34 dX10_changes_1 rfl W.1 rfl ?_
  refine J_bipush (pc1 := 6) (by decide) dX10_changes_4 rfl ?_
  refine J_icmp_ne (pc1 := 9) (tgt := 48) (by omega) (by omega) (by decide) (by decide) dX10_changes_6 rfl rfl (fun hc1 => ?_) (fun hc1 => ?_)
  · refine J_iconst (pc1 := 49) dX10_changes_48 rfl ?_
    refine J_istore_n (pc1 := 50) (L1 := [some (.ref (B 0)), some (.int (iI 0))]) rfl (i := 1) dX10_changes_49 rfl (by decide) rfl rfl ?_
    exact k _ ⟨W.1, W.2.1, W.2.2.1, W.2.2.2.1, W.2.2.2.2.1, W.2.2.2.2.2.1, W.2.2.2.2.2.2.1, W.2.2.2.2.2.2.2⟩ (fun x h0 h1 h2 h3 h4 h5 h6 h7 => rfl)
  · exact absurd hc1 (by omega)
theorem c_X10_changes {n : Nat} {H : Nat → Int → Int} {S : pS} {B : Nat → Nat} {f hs sl sv ti tx to : Int → Int} {ik kr ks L sp nu rd : Int} (W : MW S B f hs sl sv ti tx to (n : Int) ik kr ks L sp nu rd) (hn : n ≤ 6) (hH : hsOK hs n H) : Ct yX10_changes cX10_changes 2 none 0 0 0 [.ref (B 0)] S (kNS (fun T => ∃ hs', MW T B f hs' sl sv ti tx to ((kpN n : Nat) : Int) ik kr ks L sp nu rd ∧ hsOK hs' (kpN n) (kpH n f H) ∧ frM S T B)) := by
  refine Ct.ofJ (by decide +kernel) (Nat.le_of_ble_eq_true rfl) ?_
  refine J_L (L1 := [some (.ref (B 0)), none]) rfl ?_
  by_cases e : n = 6
  · subst e
    refine ch_0 W rfl (fun T1 W1 r1 => ?_)
    refine ch_1l 95 W1 (j := 0) (by decide) (by decide) (fun k k0 k1 => by omega) (fun _ _ => rfl) (fun T2 g W2 r2 hg => ?_)
    refine ch_2_l (by decide) 19 W2 (j := 0) (by decide) (by decide) Cpy.z (fun T3 g' W3 r3 hc => ?_)
    refine ch_2x W3 (fun T4 W4 r4 => ?_)
    exact ⟨rfl, g', W4, hs_1 hg hH hc, frM.tr r1 (frM.tr r2 (frM.tr r3 r4))⟩
  · refine ch_0n W (by omega) (fun T1 W1 r1 => ?_)
    refine ch_2_l (by omega) 19 W1 (j := 0) (by decide) (by decide) Cpy.z (fun T3 g' W3 r3 hc => ?_)
    refine ch_2x W3 (fun T4 W4 r4 => ?_)
    have e1 : kpN n = n + 1 := if_neg e
    rw [e1]
    exact ⟨rfl, g', W4, hs_2 e hH hc, frM.tr r1 (frM.tr r3 r4)⟩
