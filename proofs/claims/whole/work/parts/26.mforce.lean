/-! 26.mforce: whether a player can force a win, in the reference -/
def cdT (E p h : Int) : Int := if p = 0 then E - h else E + h
def cdO (ln p one ot : Int) : Int := (if p = 0 then one else ot) + ln
def cdB (p fi : Int) : Int := if fi = p then 1 else 0
/-- forced in k rounds, in the reference's coordinates -/
def FC (E ln ps tn : Int) (k : Nat) (p h one ot fi : Int) : Prop := fc E tn ps k (cdT E p h) (cdO ln p one ot) (cdO ln p ot one) (cdB p fi)
/-- the states that can come of a sum of hours (PAYS 0), or of hours of at most 6 (PAYS 1) -/
def vC (E ln ps ks p h one ot fi : Int) : Prop := (p = 0 ∨ p = 1) ∧ (fi = 0 ∨ fi = 1) ∧ (-E ≤ h ∧ h ≤ E) ∧ -ln ≤ one ∧ -ln ≤ ot ∧ (ps = 0 → one + ot = ks) ∧ (ps = 1 → one ≤ 6 ∧ ot ≤ 6)
def okR (E ln ps tn ks : Int) : Prop := (1 ≤ E ∧ E ≤ 3) ∧ (0 ≤ ln ∧ ln ≤ 2) ∧ (ps = 0 ∨ ps = 1) ∧ (tn = 0 ∨ tn = 1) ∧ -100 ≤ ks ∧ ks ≤ 20
theorem atF_in {p h one ot fi p' h' one' ot' fi' : Int} (a1 : p = 0 ∨ p = 1) (a2 : -3 ≤ h ∧ h ≤ 3) (a3 : -2 ≤ one ∧ one ≤ 24) (a4 : -2 ≤ ot ∧ ot ≤ 24) (a5 : fi = 0 ∨ fi = 1) (b1 : p' = 0 ∨ p' = 1) (b2 : -3 ≤ h' ∧ h' ≤ 3) (b3 : -2 ≤ one' ∧ one' ≤ 24) (b4 : -2 ≤ ot' ∧ ot' ≤ 24) (b5 : fi' = 0 ∨ fi' = 1) (e : atF p h one ot fi = atF p' h' one' ot' fi') : p = p' ∧ h = h' ∧ one = one' ∧ ot = ot' ∧ fi = fi' := by
  unfold atF at e
  have e1 : fi = fi' := by omega
  have e2 : ot = ot' := by omega
  have e3 : one = one' := by omega
  refine ⟨?_, ?_, e3, e2, e1⟩ <;> omega
theorem atF_r {p h one ot fi : Int} (a1 : p = 0 ∨ p = 1) (a2 : -3 ≤ h ∧ h ≤ 3) (a3 : -2 ≤ one ∧ one ≤ 24) (a4 : -2 ≤ ot ∧ ot ≤ 24) (a5 : fi = 0 ∨ fi = 1) : 0 ≤ atF p h one ot fi ∧ atF p h one ot fi < 20412 := by
  unfold atF
  omega
theorem vC_w {E ln ps tn ks p h one ot fi : Int} (R : okR E ln ps tn ks) (v : vC E ln ps ks p h one ot fi) : (-3 ≤ h ∧ h ≤ 3) ∧ (-2 ≤ one ∧ one ≤ 24) ∧ (-2 ≤ ot ∧ ot ≤ 24) := by
  obtain ⟨r1, r2, r3, r4, r5, r6⟩ := R
  obtain ⟨v1, v2, v3, v4, v5, v6, v7⟩ := v
  rcases r3 with q | q
  · have := v6 q
    omega
  · have := v7 q
    omega
theorem vC_r {E ln ps tn ks p h one ot fi : Int} (R : okR E ln ps tn ks) (v : vC E ln ps ks p h one ot fi) : 0 ≤ atF p h one ot fi ∧ atF p h one ot fi < 20412 := by
  obtain ⟨w1, w2, w3⟩ := vC_w R v
  exact atF_r v.1 w1 w2 w3 v.2.1
theorem fc_cg {E tn ps : Int} {k : Nat} {a b c d a' b' c' d' : Int} (e1 : a = a') (e2 : b = b') (e3 : c = c') (e4 : d = d') : fc E tn ps k a b c d ↔ fc E tn ps k a' b' c' d' := by rw [e1, e2, e3, e4]
/-- the table tells, of each state, whether it is forced in k rounds -/
def tK (E ln ps tn ks : Int) (k : Nat) (g : Int → Int) : Prop := ∀ p h one ot fi, vC E ln ps ks p h one ot fi → (g (atF p h one ot fi) < (k : Int) + 1 ↔ FC E ln ps tn k p h one ot fi)
/-- what a round of a bid and an answer leads to, for the player -/
def WN (E ln ps tn : Int) (k : Nat) (p h one ot fi b a : Int) : Prop :=
  if p = fi then (fst tn b a → tkP ps (fc E tn ps k) (cdT E p h) (cdO ln p one ot) (cdO ln p ot one) b 0) ∧ (¬ fst tn b a → lsP ps (fc E tn ps k) (cdT E p h) (cdO ln p one ot) (cdO ln p ot one) a 0)
  else (fst tn b a → lsP ps (fc E tn ps k) (cdT E p h) (cdO ln p one ot) (cdO ln p ot one) b 1) ∧ (¬ fst tn b a → tkP ps (fc E tn ps k) (cdT E p h) (cdO ln p one ot) (cdO ln p ot one) a 1)
theorem bh_c {E ln ps tn ks : Int} (R : okR E ln ps tn ks) {p h one ot fi b a : Int} (v : vC E ln ps ks p h one ot fi) (hh : -E < h ∧ h < E) (b0 : 0 ≤ b) (b1 : b ≤ cdO ln fi one ot) (a0 : 0 ≤ a) (a1 : a ≤ cdO ln fi ot one) :
    ∃ h' one' ot', bhF tn ps p h one ot fi b a = atF p h' one' ot' (1 - fi) ∧ vC E ln ps ks p h' one' ot' (1 - fi) ∧ ∀ k, (FC E ln ps tn k p h' one' ot' (1 - fi) ↔ WN E ln ps tn k p h one ot fi b a) := by
  obtain ⟨r1, r2, r3, r4, r5, r6⟩ := R
  obtain ⟨v1, v2, v3, v4, v5, v6, v7⟩ := v
  have hga : ∀ x, (ps = 0 → gaE ps x = x) ∧ (ps = 1 → gaE ps x = 0) := fun x => ⟨fun q => gaE0 q, fun q => gaE1 q⟩
  have gb := hga b
  have ga := hga a
  unfold cdO at b1 a1
  by_cases hf : fst tn b a
  · have ht : tkG tn fi b a = fi := if_pos hf
    have hp : pyG tn fi b a = b := by unfold pyG; rw [if_pos ht]
    rcases v2 with rfl | rfl
    · refine ⟨h + 1, one - b, ot + gaE ps b, by unfold bhF; rw [if_pos ht, hp], ?_, fun k => ?_⟩
      · rw [if_pos rfl] at b1 a1
        refine ⟨v1, Or.inr rfl, by omega, by omega, by omega, fun q => by have := gb.1 q; have := v6 q; omega, fun q => by have := gb.2 q; have := v7 q; omega⟩
      · unfold FC WN tkP lsP cdT cdO cdB
        rcases v1 with rfl | rfl
        · simp only [if_true, if_pos (show (0 : Int) = 0 from rfl), if_neg (show ¬ (1 - 0 : Int) = 0 by decide)]
          exact (fc_cg (by omega) (by omega) (by omega) rfl).trans ⟨fun q => ⟨fun _ => q, fun z => absurd hf z⟩, fun q => q.1 hf⟩
        · simp only [if_neg (show ¬ (1 : Int) = 0 by decide), if_pos (show (1 - 0 : Int) = 1 from rfl)]
          exact (fc_cg (by omega) (by omega) (by omega) rfl).trans ⟨fun q => ⟨fun _ => q, fun z => absurd hf z⟩, fun q => q.1 hf⟩
    · refine ⟨h - 1, one + gaE ps b, ot - b, by unfold bhF; rw [if_neg (by omega), hp], ?_, fun k => ?_⟩
      · rw [if_neg (by decide)] at b1 a1
        refine ⟨v1, Or.inl rfl, by omega, by omega, by omega, fun q => by have := gb.1 q; have := v6 q; omega, fun q => by have := gb.2 q; have := v7 q; omega⟩
      · unfold FC WN tkP lsP cdT cdO cdB
        rcases v1 with rfl | rfl
        · simp only [if_true, if_pos (show (0 : Int) = 0 from rfl), if_neg (show ¬ (0 : Int) = 1 by decide), if_pos (show (1 - 1 : Int) = 0 from rfl)]
          exact (fc_cg (by omega) (by omega) (by omega) rfl).trans ⟨fun q => ⟨fun _ => q, fun z => absurd hf z⟩, fun q => q.1 hf⟩
        · simp only [if_neg (show ¬ (1 : Int) = 0 by decide), if_neg (show ¬ (1 - 1 : Int) = 1 by decide), if_pos (show (1 : Int) = 1 from rfl)]
          exact (fc_cg (by omega) (by omega) (by omega) rfl).trans ⟨fun q => ⟨fun _ => q, fun z => absurd hf z⟩, fun q => q.1 hf⟩
  · have ht : tkG tn fi b a = 1 - fi := if_neg hf
    have hp : pyG tn fi b a = a := by unfold pyG; rw [if_neg (by omega)]
    rcases v2 with rfl | rfl
    · refine ⟨h - 1, one + gaE ps a, ot - a, by unfold bhF; rw [if_neg (by omega), hp], ?_, fun k => ?_⟩
      · rw [if_pos rfl] at b1 a1
        refine ⟨v1, Or.inr rfl, by omega, by omega, by omega, fun q => by have := ga.1 q; have := v6 q; omega, fun q => by have := ga.2 q; have := v7 q; omega⟩
      · unfold FC WN tkP lsP cdT cdO cdB
        rcases v1 with rfl | rfl
        · simp only [if_true, if_pos (show (0 : Int) = 0 from rfl), if_neg (show ¬ (1 - 0 : Int) = 0 by decide)]
          exact (fc_cg (by omega) (by omega) (by omega) rfl).trans ⟨fun q => ⟨fun z => absurd z hf, fun _ => q⟩, fun q => q.2 hf⟩
        · simp only [if_neg (show ¬ (1 : Int) = 0 by decide), if_pos (show (1 - 0 : Int) = 1 from rfl)]
          exact (fc_cg (by omega) (by omega) (by omega) rfl).trans ⟨fun q => ⟨fun z => absurd z hf, fun _ => q⟩, fun q => q.2 hf⟩
    · refine ⟨h + 1, one - a, ot + gaE ps a, by unfold bhF; rw [if_pos (by omega), hp], ?_, fun k => ?_⟩
      · rw [if_neg (by decide)] at b1 a1
        refine ⟨v1, Or.inl rfl, by omega, by omega, by omega, fun q => by have := ga.1 q; have := v6 q; omega, fun q => by have := ga.2 q; have := v7 q; omega⟩
      · unfold FC WN tkP lsP cdT cdO cdB
        rcases v1 with rfl | rfl
        · simp only [if_true, if_pos (show (0 : Int) = 0 from rfl), if_neg (show ¬ (0 : Int) = 1 by decide), if_pos (show (1 - 1 : Int) = 0 from rfl)]
          exact (fc_cg (by omega) (by omega) (by omega) rfl).trans ⟨fun q => ⟨fun z => absurd z hf, fun _ => q⟩, fun q => q.2 hf⟩
        · simp only [if_neg (show ¬ (1 : Int) = 0 by decide), if_neg (show ¬ (1 - 1 : Int) = 1 by decide), if_pos (show (1 : Int) = 1 from rfl)]
          exact (fc_cg (by omega) (by omega) (by omega) rfl).trans ⟨fun q => ⟨fun z => absurd z hf, fun _ => q⟩, fun q => q.2 hf⟩
theorem stP_1' {E ti ps tw o f : Int} {P : qP} (h : 0 < tw ∧ tw < 2 * E) : stP E ti ps P tw o f 1 ↔ bidP ti ps P tw o f := by
  unfold stP
  exact ⟨fun q => q.elim (fun z => by omega) (fun z => z.2.1 rfl), fun q => Or.inr ⟨h.2, fun _ => q, fun z => by omega⟩⟩
theorem stP_0' {E ti ps tw o f : Int} {P : qP} (h : 0 < tw ∧ tw < 2 * E) : stP E ti ps P tw o f 0 ↔ ansP ti ps P tw o f := by
  unfold stP
  exact ⟨fun q => q.elim (fun z => by omega) (fun z => z.2.2 rfl), fun q => Or.inr ⟨h.2, fun z => by omega, fun _ => q⟩⟩
/-- one round more, in terms of the rounds that can be played -/
theorem FC_s {E ln ps tn ks : Int} (R : okR E ln ps tn ks) {k : Nat} {p h one ot fi : Int} (v : vC E ln ps ks p h one ot fi) (hh : -E < h ∧ h < E) :
    FC E ln ps tn (k + 1) p h one ot fi ↔ if p = fi then (∃ b, (0 ≤ b ∧ b ≤ cdO ln fi one ot) ∧ ∀ a, 0 ≤ a → a ≤ cdO ln fi ot one → WN E ln ps tn k p h one ot fi b a) else (∀ b, 0 ≤ b → b ≤ cdO ln fi one ot → ∃ a, (0 ≤ a ∧ a ≤ cdO ln fi ot one) ∧ WN E ln ps tn k p h one ot fi b a) := by
  have hT : 0 < cdT E p h ∧ cdT E p h < 2 * E := by unfold cdT; split <;> omega
  unfold FC
  show stP E tn ps (fc E tn ps k) _ _ _ _ ↔ _
  by_cases hp : p = fi
  · rw [if_pos hp]
    have hB : cdB p fi = 1 := if_pos hp.symm
    rw [hB, stP_1' hT]
    unfold bidP WN
    subst hp
    simp only [if_true]
  · rw [if_neg hp]
    have hB : cdB p fi = 0 := if_neg (fun q => hp q.symm)
    rw [hB, stP_0' hT]
    unfold ansP WN
    simp only [if_neg hp]
    have e1 : cdO ln fi one ot = cdO ln p ot one := by
      have v1 := v.1
      have v2 := v.2.1
      unfold cdO
      (repeat' split) <;> omega
    have e2 : cdO ln fi ot one = cdO ln p one ot := by
      have v1 := v.1
      have v2 := v.2.1
      unfold cdO
      (repeat' split) <;> omega
    rw [e1, e2]
def isI (v r : Int) : Int := if v < r then 1 else 0
def orI (x y : Int) : Int := if x = 0 then (if y = 0 then 0 else 1) else 1
def anI (x y : Int) : Int := if x = 0 then 0 else if y = 0 then 0 else 1
theorem isI_b (v r : Int) : isI v r = bC (v < r) := by
  unfold isI
  split
  · exact (bC_t (by assumption)).symm
  · exact (bC_f (by assumption)).symm
theorem orI_b (P Q : Prop) : orI (bC P) (bC Q) = bC (P ∨ Q) := by
  unfold orI
  split
  · next h =>
    split
    · next k => exact (bC_f (fun z => z.elim (bC_0 h) (bC_0 k))).symm
    · next k => exact (bC_t (Or.inr (bC_1 k))).symm
  · next h => exact (bC_t (Or.inl (bC_1 h))).symm
theorem anI_b (P Q : Prop) : anI (bC P) (bC Q) = bC (P ∧ Q) := by
  unfold anI
  split
  · next h => exact (bC_f (fun z => bC_0 h z.1)).symm
  · next h =>
    split
    · next k => exact (bC_f (fun z => bC_0 k z.2)).symm
    · next k => exact (bC_t ⟨bC_1 h, bC_1 k⟩).symm
set_option maxHeartbeats 1000000 in
set_option maxRecDepth 20000 in
theorem cf_0 {S : pS} {B : Nat → Nat} {f hs sl sv ti tx to : Int → Int} {n ik kr ks L sp nu rd : Int} (W : MW S B f hs sl sv ti tx to n ik kr ks L sp nu rd) {K : Option Value → pS → Prop} {p h one ot fi r : Int} (h1 : 0 ≤ f 1 ∧ f 1 ≤ 2) (h2 : f 2 = 0 ∨ f 2 = 1) (h3 : f 3 = 0 ∨ f 3 = 1) (hp : p = 0 ∨ p = 1) (hf : fi = 0 ∨ fi = 1) (hr : 0 ≤ r ∧ r ≤ 9) (ho : -2 ≤ one ∧ one ≤ 24) (ht : -2 ≤ ot ∧ ot ≤ 24) (k : Jd yX10_canForce cX10_canForce 16 (Option.some FieldType.boolean) 2 0 0 K 0 0 S 49 [some (.ref (B 0)), some (.int (iI p)), some (.int (iI h)), some (.int (iI one)), some (.int (iI ot)), some (.int (iI fi)), some (.int (iI r)), some (.int (iI (cdO (f 1) fi one ot))), some (.int (iI (cdO (f 1) fi ot one))), some (.int (iI 0)), some (.int (iI 1)), some (.int (iI 0)), none, none, none, none] []) : Jd yX10_canForce cX10_canForce 16 (Option.some FieldType.boolean) 2 0 0 K 0 0 S 0 [some (.ref (B 0)), some (.int (iI p)), some (.int (iI h)), some (.int (iI one)), some (.int (iI ot)), some (.int (iI fi)), some (.int (iI r)), none, none, none, none, none, none, none, none, none] [] := by
  show Jd yX10_canForce cX10_canForce 16 (Option.some FieldType.boolean) 2 0 0 K 0 0 S 0 [some (.ref (B 0)), some (.int (iI p)), some (.int (iI h)), some (.int (iI one)), some (.int (iI ot)), some (.int (iI fi)), some (.int (iI r)), none, none, none, none, none, none, none, none, none] []
  refine J_iload (pc1 := 2) rfl dX10_canForce_0 rfl ?_
  refine J_if_ne (pc1 := 5) (tgt := 9) (by omega) (by omega) dX10_canForce_2 rfl rfl (fun hc1 => ?_) (fun hc1 => ?_)
  · refine J_iload (pc1 := 11) rfl dX10_canForce_9 rfl ?_
    refine J_aload_n (pc1 := 12) rfl (i := 0) rfl dX10_canForce_11 rfl ?_
    refine J_get (pc1 := 15) (j := 0) inUX10 (ci := 10) rfl (by decide) lf_X10_7 dX10_canForce_12 rfl W.1 rfl ?_
    refine J_iconst (pc1 := 16) dX10_canForce_15 rfl ?_
    refine J_iald (pc1 := 17) dX10_canForce_16 rfl W.2.1 (by omega) (by omega) (by omega) ?_
    refine J_iadd (pc1 := 18) dX10_canForce_17 rfl ?_
    refine J_istore (pc1 := 20) (L1 := [some (.ref (B 0)), some (.int (iI p)), some (.int (iI h)), some (.int (iI one)), some (.int (iI ot)), some (.int (iI fi)), some (.int (iI r)), some (.int (iI (ot + (f 1)))), none, none, none, none, none, none, none, none]) dX10_canForce_18 rfl (by decide) rfl rfl ?_
    refine J_iload (pc1 := 22) rfl dX10_canForce_20 rfl ?_
    refine J_if_ne (pc1 := 25) (tgt := 30) (by omega) (by omega) dX10_canForce_22 rfl rfl (fun hc2 => ?_) (fun hc2 => ?_)
    · refine J_iload_n (pc1 := 31) rfl (i := 3) rfl dX10_canForce_30 rfl ?_
      refine J_aload_n (pc1 := 32) rfl (i := 0) rfl dX10_canForce_31 rfl ?_
      refine J_get (pc1 := 35) (j := 0) inUX10 (ci := 10) rfl (by decide) lf_X10_7 dX10_canForce_32 rfl W.1 rfl ?_
      refine J_iconst (pc1 := 36) dX10_canForce_35 rfl ?_
      refine J_iald (pc1 := 37) dX10_canForce_36 rfl W.2.1 (by omega) (by omega) (by omega) ?_
      refine J_iadd (pc1 := 38) dX10_canForce_37 rfl ?_
      refine J_istore (pc1 := 40) (L1 := [some (.ref (B 0)), some (.int (iI p)), some (.int (iI h)), some (.int (iI one)), some (.int (iI ot)), some (.int (iI fi)), some (.int (iI r)), some (.int (iI (ot + (f 1)))), some (.int (iI (one + (f 1)))), none, none, none, none, none, none, none]) dX10_canForce_38 rfl (by decide) rfl rfl ?_
      refine J_iconst (pc1 := 41) dX10_canForce_40 rfl ?_
      refine J_istore (pc1 := 43) (L1 := [some (.ref (B 0)), some (.int (iI p)), some (.int (iI h)), some (.int (iI one)), some (.int (iI ot)), some (.int (iI fi)), some (.int (iI r)), some (.int (iI (ot + (f 1)))), some (.int (iI (one + (f 1)))), some (.int (iI 0)), none, none, none, none, none, none]) dX10_canForce_41 rfl (by decide) rfl rfl ?_
      refine J_iconst (pc1 := 44) dX10_canForce_43 rfl ?_
      refine J_istore (pc1 := 46) (L1 := [some (.ref (B 0)), some (.int (iI p)), some (.int (iI h)), some (.int (iI one)), some (.int (iI ot)), some (.int (iI fi)), some (.int (iI r)), some (.int (iI (ot + (f 1)))), some (.int (iI (one + (f 1)))), some (.int (iI 0)), some (.int (iI 1)), none, none, none, none, none]) dX10_canForce_44 rfl (by decide) rfl rfl ?_
      refine J_iconst (pc1 := 47) dX10_canForce_46 rfl ?_
      refine J_istore (pc1 := 49) (L1 := [some (.ref (B 0)), some (.int (iI p)), some (.int (iI h)), some (.int (iI one)), some (.int (iI ot)), some (.int (iI fi)), some (.int (iI r)), some (.int (iI (ot + (f 1)))), some (.int (iI (one + (f 1)))), some (.int (iI 0)), some (.int (iI 1)), some (.int (iI 0)), none, none, none, none]) dX10_canForce_47 rfl (by decide) rfl rfl ?_
      refine J_L (L1 := [some (.ref (B 0)), some (.int (iI p)), some (.int (iI h)), some (.int (iI one)), some (.int (iI ot)), some (.int (iI fi)), some (.int (iI r)), some (.int (iI (cdO (f 1) fi one ot))), some (.int (iI (cdO (f 1) fi ot one))), some (.int (iI 0)), some (.int (iI 1)), some (.int (iI 0)), none, none, none, none]) (by rw [show (cdO (f 1) fi one ot) = (ot + (f 1)) by unfold cdO; first | (exfalso; omega) | rw [if_pos (by omega)] | rw [if_neg (by omega)], show (cdO (f 1) fi ot one) = (one + (f 1)) by unfold cdO; first | (exfalso; omega) | rw [if_pos (by omega)] | rw [if_neg (by omega)]]) ?_
      exact k
    · refine J_iload (pc1 := 27) rfl dX10_canForce_25 rfl ?_
      refine J_goto (tgt := 31) dX10_canForce_27 rfl ?_
      refine J_aload_n (pc1 := 32) rfl (i := 0) rfl dX10_canForce_31 rfl ?_
      refine J_get (pc1 := 35) (j := 0) inUX10 (ci := 10) rfl (by decide) lf_X10_7 dX10_canForce_32 rfl W.1 rfl ?_
      refine J_iconst (pc1 := 36) dX10_canForce_35 rfl ?_
      refine J_iald (pc1 := 37) dX10_canForce_36 rfl W.2.1 (by omega) (by omega) (by omega) ?_
      refine J_iadd (pc1 := 38) dX10_canForce_37 rfl ?_
      refine J_istore (pc1 := 40) (L1 := [some (.ref (B 0)), some (.int (iI p)), some (.int (iI h)), some (.int (iI one)), some (.int (iI ot)), some (.int (iI fi)), some (.int (iI r)), some (.int (iI (ot + (f 1)))), some (.int (iI (ot + (f 1)))), none, none, none, none, none, none, none]) dX10_canForce_38 rfl (by decide) rfl rfl ?_
      refine J_iconst (pc1 := 41) dX10_canForce_40 rfl ?_
      refine J_istore (pc1 := 43) (L1 := [some (.ref (B 0)), some (.int (iI p)), some (.int (iI h)), some (.int (iI one)), some (.int (iI ot)), some (.int (iI fi)), some (.int (iI r)), some (.int (iI (ot + (f 1)))), some (.int (iI (ot + (f 1)))), some (.int (iI 0)), none, none, none, none, none, none]) dX10_canForce_41 rfl (by decide) rfl rfl ?_
      refine J_iconst (pc1 := 44) dX10_canForce_43 rfl ?_
      refine J_istore (pc1 := 46) (L1 := [some (.ref (B 0)), some (.int (iI p)), some (.int (iI h)), some (.int (iI one)), some (.int (iI ot)), some (.int (iI fi)), some (.int (iI r)), some (.int (iI (ot + (f 1)))), some (.int (iI (ot + (f 1)))), some (.int (iI 0)), some (.int (iI 1)), none, none, none, none, none]) dX10_canForce_44 rfl (by decide) rfl rfl ?_
      refine J_iconst (pc1 := 47) dX10_canForce_46 rfl ?_
      refine J_istore (pc1 := 49) (L1 := [some (.ref (B 0)), some (.int (iI p)), some (.int (iI h)), some (.int (iI one)), some (.int (iI ot)), some (.int (iI fi)), some (.int (iI r)), some (.int (iI (ot + (f 1)))), some (.int (iI (ot + (f 1)))), some (.int (iI 0)), some (.int (iI 1)), some (.int (iI 0)), none, none, none, none]) dX10_canForce_47 rfl (by decide) rfl rfl ?_
      refine J_L (L1 := [some (.ref (B 0)), some (.int (iI p)), some (.int (iI h)), some (.int (iI one)), some (.int (iI ot)), some (.int (iI fi)), some (.int (iI r)), some (.int (iI (cdO (f 1) fi one ot))), some (.int (iI (cdO (f 1) fi ot one))), some (.int (iI 0)), some (.int (iI 1)), some (.int (iI 0)), none, none, none, none]) (by rw [show (cdO (f 1) fi one ot) = (ot + (f 1)) by unfold cdO; first | (exfalso; omega) | rw [if_pos (by omega)] | rw [if_neg (by omega)], show (cdO (f 1) fi ot one) = (ot + (f 1)) by unfold cdO; first | (exfalso; omega) | rw [if_pos (by omega)] | rw [if_neg (by omega)]]) ?_
      exact k
  · refine J_iload_n (pc1 := 6) rfl (i := 3) rfl dX10_canForce_5 rfl ?_
    refine J_goto (tgt := 11) dX10_canForce_6 rfl ?_
    refine J_aload_n (pc1 := 12) rfl (i := 0) rfl dX10_canForce_11 rfl ?_
    refine J_get (pc1 := 15) (j := 0) inUX10 (ci := 10) rfl (by decide) lf_X10_7 dX10_canForce_12 rfl W.1 rfl ?_
    refine J_iconst (pc1 := 16) dX10_canForce_15 rfl ?_
    refine J_iald (pc1 := 17) dX10_canForce_16 rfl W.2.1 (by omega) (by omega) (by omega) ?_
    refine J_iadd (pc1 := 18) dX10_canForce_17 rfl ?_
    refine J_istore (pc1 := 20) (L1 := [some (.ref (B 0)), some (.int (iI p)), some (.int (iI h)), some (.int (iI one)), some (.int (iI ot)), some (.int (iI fi)), some (.int (iI r)), some (.int (iI (one + (f 1)))), none, none, none, none, none, none, none, none]) dX10_canForce_18 rfl (by decide) rfl rfl ?_
    refine J_iload (pc1 := 22) rfl dX10_canForce_20 rfl ?_
    refine J_if_ne (pc1 := 25) (tgt := 30) (by omega) (by omega) dX10_canForce_22 rfl rfl (fun hc3 => ?_) (fun hc3 => ?_)
    · refine J_iload_n (pc1 := 31) rfl (i := 3) rfl dX10_canForce_30 rfl ?_
      refine J_aload_n (pc1 := 32) rfl (i := 0) rfl dX10_canForce_31 rfl ?_
      refine J_get (pc1 := 35) (j := 0) inUX10 (ci := 10) rfl (by decide) lf_X10_7 dX10_canForce_32 rfl W.1 rfl ?_
      refine J_iconst (pc1 := 36) dX10_canForce_35 rfl ?_
      refine J_iald (pc1 := 37) dX10_canForce_36 rfl W.2.1 (by omega) (by omega) (by omega) ?_
      refine J_iadd (pc1 := 38) dX10_canForce_37 rfl ?_
      refine J_istore (pc1 := 40) (L1 := [some (.ref (B 0)), some (.int (iI p)), some (.int (iI h)), some (.int (iI one)), some (.int (iI ot)), some (.int (iI fi)), some (.int (iI r)), some (.int (iI (one + (f 1)))), some (.int (iI (one + (f 1)))), none, none, none, none, none, none, none]) dX10_canForce_38 rfl (by decide) rfl rfl ?_
      refine J_iconst (pc1 := 41) dX10_canForce_40 rfl ?_
      refine J_istore (pc1 := 43) (L1 := [some (.ref (B 0)), some (.int (iI p)), some (.int (iI h)), some (.int (iI one)), some (.int (iI ot)), some (.int (iI fi)), some (.int (iI r)), some (.int (iI (one + (f 1)))), some (.int (iI (one + (f 1)))), some (.int (iI 0)), none, none, none, none, none, none]) dX10_canForce_41 rfl (by decide) rfl rfl ?_
      refine J_iconst (pc1 := 44) dX10_canForce_43 rfl ?_
      refine J_istore (pc1 := 46) (L1 := [some (.ref (B 0)), some (.int (iI p)), some (.int (iI h)), some (.int (iI one)), some (.int (iI ot)), some (.int (iI fi)), some (.int (iI r)), some (.int (iI (one + (f 1)))), some (.int (iI (one + (f 1)))), some (.int (iI 0)), some (.int (iI 1)), none, none, none, none, none]) dX10_canForce_44 rfl (by decide) rfl rfl ?_
      refine J_iconst (pc1 := 47) dX10_canForce_46 rfl ?_
      refine J_istore (pc1 := 49) (L1 := [some (.ref (B 0)), some (.int (iI p)), some (.int (iI h)), some (.int (iI one)), some (.int (iI ot)), some (.int (iI fi)), some (.int (iI r)), some (.int (iI (one + (f 1)))), some (.int (iI (one + (f 1)))), some (.int (iI 0)), some (.int (iI 1)), some (.int (iI 0)), none, none, none, none]) dX10_canForce_47 rfl (by decide) rfl rfl ?_
      refine J_L (L1 := [some (.ref (B 0)), some (.int (iI p)), some (.int (iI h)), some (.int (iI one)), some (.int (iI ot)), some (.int (iI fi)), some (.int (iI r)), some (.int (iI (cdO (f 1) fi one ot))), some (.int (iI (cdO (f 1) fi ot one))), some (.int (iI 0)), some (.int (iI 1)), some (.int (iI 0)), none, none, none, none]) (by rw [show (cdO (f 1) fi one ot) = (one + (f 1)) by unfold cdO; first | (exfalso; omega) | rw [if_pos (by omega)] | rw [if_neg (by omega)], show (cdO (f 1) fi ot one) = (one + (f 1)) by unfold cdO; first | (exfalso; omega) | rw [if_pos (by omega)] | rw [if_neg (by omega)]]) ?_
      exact k
    · refine J_iload (pc1 := 27) rfl dX10_canForce_25 rfl ?_
      refine J_goto (tgt := 31) dX10_canForce_27 rfl ?_
      refine J_aload_n (pc1 := 32) rfl (i := 0) rfl dX10_canForce_31 rfl ?_
      refine J_get (pc1 := 35) (j := 0) inUX10 (ci := 10) rfl (by decide) lf_X10_7 dX10_canForce_32 rfl W.1 rfl ?_
      refine J_iconst (pc1 := 36) dX10_canForce_35 rfl ?_
      refine J_iald (pc1 := 37) dX10_canForce_36 rfl W.2.1 (by omega) (by omega) (by omega) ?_
      refine J_iadd (pc1 := 38) dX10_canForce_37 rfl ?_
      refine J_istore (pc1 := 40) (L1 := [some (.ref (B 0)), some (.int (iI p)), some (.int (iI h)), some (.int (iI one)), some (.int (iI ot)), some (.int (iI fi)), some (.int (iI r)), some (.int (iI (one + (f 1)))), some (.int (iI (ot + (f 1)))), none, none, none, none, none, none, none]) dX10_canForce_38 rfl (by decide) rfl rfl ?_
      refine J_iconst (pc1 := 41) dX10_canForce_40 rfl ?_
      refine J_istore (pc1 := 43) (L1 := [some (.ref (B 0)), some (.int (iI p)), some (.int (iI h)), some (.int (iI one)), some (.int (iI ot)), some (.int (iI fi)), some (.int (iI r)), some (.int (iI (one + (f 1)))), some (.int (iI (ot + (f 1)))), some (.int (iI 0)), none, none, none, none, none, none]) dX10_canForce_41 rfl (by decide) rfl rfl ?_
      refine J_iconst (pc1 := 44) dX10_canForce_43 rfl ?_
      refine J_istore (pc1 := 46) (L1 := [some (.ref (B 0)), some (.int (iI p)), some (.int (iI h)), some (.int (iI one)), some (.int (iI ot)), some (.int (iI fi)), some (.int (iI r)), some (.int (iI (one + (f 1)))), some (.int (iI (ot + (f 1)))), some (.int (iI 0)), some (.int (iI 1)), none, none, none, none, none]) dX10_canForce_44 rfl (by decide) rfl rfl ?_
      refine J_iconst (pc1 := 47) dX10_canForce_46 rfl ?_
      refine J_istore (pc1 := 49) (L1 := [some (.ref (B 0)), some (.int (iI p)), some (.int (iI h)), some (.int (iI one)), some (.int (iI ot)), some (.int (iI fi)), some (.int (iI r)), some (.int (iI (one + (f 1)))), some (.int (iI (ot + (f 1)))), some (.int (iI 0)), some (.int (iI 1)), some (.int (iI 0)), none, none, none, none]) dX10_canForce_47 rfl (by decide) rfl rfl ?_
      refine J_L (L1 := [some (.ref (B 0)), some (.int (iI p)), some (.int (iI h)), some (.int (iI one)), some (.int (iI ot)), some (.int (iI fi)), some (.int (iI r)), some (.int (iI (cdO (f 1) fi one ot))), some (.int (iI (cdO (f 1) fi ot one))), some (.int (iI 0)), some (.int (iI 1)), some (.int (iI 0)), none, none, none, none]) (by rw [show (cdO (f 1) fi one ot) = (one + (f 1)) by unfold cdO; first | (exfalso; omega) | rw [if_pos (by omega)] | rw [if_neg (by omega)], show (cdO (f 1) fi ot one) = (ot + (f 1)) by unfold cdO; first | (exfalso; omega) | rw [if_pos (by omega)] | rw [if_neg (by omega)]]) ?_
      exact k
set_option maxHeartbeats 1000000 in
set_option maxRecDepth 20000 in
theorem cf_o {S : pS} {B : Nat → Nat} {f hs sl sv ti tx to : Int → Int} {n ik kr ks L sp nu rd : Int} (W : MW S B f hs sl sv ti tx to n ik kr ks L sp nu rd) {K : Option Value → pS → Prop} {p h one ot fi r : Int} (h1 : 0 ≤ f 1 ∧ f 1 ≤ 2) (h2 : f 2 = 0 ∨ f 2 = 1) (h3 : f 3 = 0 ∨ f 3 = 1) (hp : p = 0 ∨ p = 1) (hf : fi = 0 ∨ fi = 1) (hr : 0 ≤ r ∧ r ≤ 9) (ho : -2 ≤ one ∧ one ≤ 24) (ht : -2 ≤ ot ∧ ot ≤ 24) {mb ma x9 x10 bid : Int} (q9 : x9 = 0 ∨ x9 = 1) (q10 : x10 = 0 ∨ x10 = 1) (hmb : 0 ≤ mb ∧ mb ≤ 100) (hma : 0 ≤ ma ∧ ma ≤ 100) (hbid : 0 ≤ bid ∧ bid ≤ 200) (hb : bid ≤ mb) (k : Jd yX10_canForce cX10_canForce 16 (Option.some FieldType.boolean) 2 0 0 K 0 0 S 65 [some (.ref (B 0)), some (.int (iI p)), some (.int (iI h)), some (.int (iI one)), some (.int (iI ot)), some (.int (iI fi)), some (.int (iI r)), some (.int (iI mb)), some (.int (iI ma)), some (.int (iI x9)), some (.int (iI x10)), some (.int (iI bid)), some (.int (iI 0)), some (.int (iI 1)), some (.int (iI 0)), none] []) : Jd yX10_canForce cX10_canForce 16 (Option.some FieldType.boolean) 2 0 0 K 0 0 S 49 [some (.ref (B 0)), some (.int (iI p)), some (.int (iI h)), some (.int (iI one)), some (.int (iI ot)), some (.int (iI fi)), some (.int (iI r)), some (.int (iI mb)), some (.int (iI ma)), some (.int (iI x9)), some (.int (iI x10)), some (.int (iI bid)), none, none, none, none] [] := by
  show Jd yX10_canForce cX10_canForce 16 (Option.some FieldType.boolean) 2 0 0 K 0 0 S 49 [some (.ref (B 0)), some (.int (iI p)), some (.int (iI h)), some (.int (iI one)), some (.int (iI ot)), some (.int (iI fi)), some (.int (iI r)), some (.int (iI mb)), some (.int (iI ma)), some (.int (iI x9)), some (.int (iI x10)), some (.int (iI bid)), none, none, none, none] []
  refine J_iload (pc1 := 51) rfl dX10_canForce_49 rfl ?_
  refine J_iload (pc1 := 53) rfl dX10_canForce_51 rfl ?_
  refine J_icmp_gt (pc1 := 56) (tgt := 184) (by omega) (by omega) (by omega) (by omega) dX10_canForce_53 rfl rfl (fun hc1 => ?_) (fun hc1 => ?_)
  · exact absurd hc1 (by omega)
  · refine J_iconst (pc1 := 57) dX10_canForce_56 rfl ?_
    refine J_istore (pc1 := 59) (L1 := [some (.ref (B 0)), some (.int (iI p)), some (.int (iI h)), some (.int (iI one)), some (.int (iI ot)), some (.int (iI fi)), some (.int (iI r)), some (.int (iI mb)), some (.int (iI ma)), some (.int (iI x9)), some (.int (iI x10)), some (.int (iI bid)), some (.int (iI 0)), none, none, none]) dX10_canForce_57 rfl (by decide) rfl rfl ?_
    refine J_iconst (pc1 := 60) dX10_canForce_59 rfl ?_
    refine J_istore (pc1 := 62) (L1 := [some (.ref (B 0)), some (.int (iI p)), some (.int (iI h)), some (.int (iI one)), some (.int (iI ot)), some (.int (iI fi)), some (.int (iI r)), some (.int (iI mb)), some (.int (iI ma)), some (.int (iI x9)), some (.int (iI x10)), some (.int (iI bid)), some (.int (iI 0)), some (.int (iI 1)), none, none]) dX10_canForce_60 rfl (by decide) rfl rfl ?_
    refine J_iconst (pc1 := 63) dX10_canForce_62 rfl ?_
    refine J_istore (pc1 := 65) (L1 := [some (.ref (B 0)), some (.int (iI p)), some (.int (iI h)), some (.int (iI one)), some (.int (iI ot)), some (.int (iI fi)), some (.int (iI r)), some (.int (iI mb)), some (.int (iI ma)), some (.int (iI x9)), some (.int (iI x10)), some (.int (iI bid)), some (.int (iI 0)), some (.int (iI 1)), some (.int (iI 0)), none]) dX10_canForce_63 rfl (by decide) rfl rfl ?_
    exact k
set_option maxHeartbeats 2000000 in
set_option maxRecDepth 20000 in
theorem cf_i {S : pS} {B : Nat → Nat} {f hs sl sv ti tx to : Int → Int} {n ik kr ks L sp nu rd : Int} (W : MW S B f hs sl sv ti tx to n ik kr ks L sp nu rd) {K : Option Value → pS → Prop} {p h one ot fi r : Int} (h1 : 0 ≤ f 1 ∧ f 1 ≤ 2) (h2 : f 2 = 0 ∨ f 2 = 1) (h3 : f 3 = 0 ∨ f 3 = 1) (hp : p = 0 ∨ p = 1) (hf : fi = 0 ∨ fi = 1) (hr : 0 ≤ r ∧ r ≤ 9) (ho : -2 ≤ one ∧ one ≤ 24) (ht : -2 ≤ ot ∧ ot ≤ 24) {mb ma x9 x10 bid x12 x13 j : Int} (q9 : x9 = 0 ∨ x9 = 1) (q10 : x10 = 0 ∨ x10 = 1) (q12 : x12 = 0 ∨ x12 = 1) (q13 : x13 = 0 ∨ x13 = 1) (hmb : 0 ≤ mb ∧ mb ≤ 100) (hma : 0 ≤ ma ∧ ma ≤ 100) (hbid : 0 ≤ bid ∧ bid ≤ 200) (hj : 0 ≤ j ∧ j ≤ 200) (hz : 0 ≤ (bhF (f 3) (f 2) p h one ot fi bid j) ∧ (bhF (f 3) (f 2) p h one ot fi bid j) < 20412) (hv : 0 ≤ ti (bhF (f 3) (f 2) p h one ot fi bid j) ∧ ti (bhF (f 3) (f 2) p h one ot fi bid j) ≤ 99) (hjm : j ≤ ma) (k : Jd yX10_canForce cX10_canForce 16 (Option.some FieldType.boolean) 2 0 0 K 0 0 S 65 [some (.ref (B 0)), some (.int (iI p)), some (.int (iI h)), some (.int (iI one)), some (.int (iI ot)), some (.int (iI fi)), some (.int (iI r)), some (.int (iI mb)), some (.int (iI ma)), some (.int (iI x9)), some (.int (iI x10)), some (.int (iI bid)), some (.int (iI (orI x12 (isI (ti (bhF (f 3) (f 2) p h one ot fi bid j)) r)))), some (.int (iI (anI x13 (isI (ti (bhF (f 3) (f 2) p h one ot fi bid j)) r)))), some (.int (iI (j + 1))), none] []) : Jd yX10_canForce cX10_canForce 16 (Option.some FieldType.boolean) 2 0 0 K 0 0 S 65 [some (.ref (B 0)), some (.int (iI p)), some (.int (iI h)), some (.int (iI one)), some (.int (iI ot)), some (.int (iI fi)), some (.int (iI r)), some (.int (iI mb)), some (.int (iI ma)), some (.int (iI x9)), some (.int (iI x10)), some (.int (iI bid)), some (.int (iI x12)), some (.int (iI x13)), some (.int (iI j)), none] [] := by
  show Jd yX10_canForce cX10_canForce 16 (Option.some FieldType.boolean) 2 0 0 K 0 0 S 65 [some (.ref (B 0)), some (.int (iI p)), some (.int (iI h)), some (.int (iI one)), some (.int (iI ot)), some (.int (iI fi)), some (.int (iI r)), some (.int (iI mb)), some (.int (iI ma)), some (.int (iI x9)), some (.int (iI x10)), some (.int (iI bid)), some (.int (iI x12)), some (.int (iI x13)), some (.int (iI j)), none] []
  refine J_iload (pc1 := 67) rfl dX10_canForce_65 rfl ?_
  refine J_iload (pc1 := 69) rfl dX10_canForce_67 rfl ?_
  refine J_icmp_gt (pc1 := 72) (tgt := 144) (by omega) (by omega) (by omega) (by omega) dX10_canForce_69 rfl rfl (fun hc1 => ?_) (fun hc1 => ?_)
  · exact absurd hc1 (by omega)
  · refine J_aload_n (pc1 := 73) rfl (i := 0) rfl dX10_canForce_72 rfl ?_
    refine J_get (pc1 := 76) (j := 5) inUX10 (ci := 10) rfl (by decide) lf_X10_22 dX10_canForce_73 rfl W.1 rfl ?_
    refine J_aload_n (pc1 := 77) rfl (i := 0) rfl dX10_canForce_76 rfl ?_
    refine J_iload_n (pc1 := 78) rfl (i := 1) rfl dX10_canForce_77 rfl ?_
    refine J_iload_n (pc1 := 79) rfl (i := 2) rfl dX10_canForce_78 rfl ?_
    refine J_iload_n (pc1 := 80) rfl (i := 3) rfl dX10_canForce_79 rfl ?_
    refine J_iload (pc1 := 82) rfl dX10_canForce_80 rfl ?_
    refine J_iload (pc1 := 84) rfl dX10_canForce_82 rfl ?_
    refine J_iload (pc1 := 86) rfl dX10_canForce_84 rfl ?_
    refine J_iload (pc1 := 88) rfl dX10_canForce_86 rfl ?_
    refine J_callVI (pc1 := 91) (As := [.int (iI p), .int (iI h), .int (iI one), .int (iI ot), .int (iI fi), .int (iI bid), .int (iI j)]) gv_X10_57 yv_X10_behind rfl (c_X10_behind ⟨W.1, W.2.1, W.2.2.1, W.2.2.2.1, W.2.2.2.2.1, W.2.2.2.2.2.1, W.2.2.2.2.2.2.1, W.2.2.2.2.2.2.2⟩ (fi := fi) (b := bid) (a := j) (by omega) (by omega) (by omega) (by omega) (by omega)) dX10_canForce_88 rfl W.1 rfl rfl (by omega) (by decide) (by omega) (by omega) (Nat.le_of_ble_eq_true rfl) ?_
    refine J_iald (pc1 := 92) dX10_canForce_91 rfl W.2.2.2.2.2.1 (by omega) (by omega) (by omega) ?_
    refine J_iload (pc1 := 94) rfl dX10_canForce_92 rfl ?_
    refine J_icmp_ge (pc1 := 97) (tgt := 101) (by omega) (by omega) (by omega) (by omega) dX10_canForce_94 rfl rfl (fun hc2 => ?_) (fun hc2 => ?_)
    · refine J_iconst (pc1 := 102) dX10_canForce_101 rfl ?_
      refine J_istore (pc1 := 104) (L1 := [some (.ref (B 0)), some (.int (iI p)), some (.int (iI h)), some (.int (iI one)), some (.int (iI ot)), some (.int (iI fi)), some (.int (iI r)), some (.int (iI mb)), some (.int (iI ma)), some (.int (iI x9)), some (.int (iI x10)), some (.int (iI bid)), some (.int (iI x12)), some (.int (iI x13)), some (.int (iI j)), some (.int (iI 0))]) dX10_canForce_102 rfl (by decide) rfl rfl ?_
      refine J_iload (pc1 := 106) rfl dX10_canForce_104 rfl ?_
      refine J_if_ne (pc1 := 109) (tgt := 114) (by omega) (by omega) dX10_canForce_106 rfl rfl (fun hc3 => ?_) (fun hc3 => ?_)
      · refine J_iconst (pc1 := 115) dX10_canForce_114 rfl ?_
        refine J_goto (tgt := 119) dX10_canForce_115 rfl ?_
        refine J_istore (pc1 := 121) (L1 := [some (.ref (B 0)), some (.int (iI p)), some (.int (iI h)), some (.int (iI one)), some (.int (iI ot)), some (.int (iI fi)), some (.int (iI r)), some (.int (iI mb)), some (.int (iI ma)), some (.int (iI x9)), some (.int (iI x10)), some (.int (iI bid)), some (.int (iI 1)), some (.int (iI x13)), some (.int (iI j)), some (.int (iI 0))]) dX10_canForce_119 rfl (by decide) rfl rfl ?_
        refine J_iload (pc1 := 123) rfl dX10_canForce_121 rfl ?_
        refine J_if_eq (pc1 := 126) (tgt := 135) (by omega) (by omega) dX10_canForce_123 rfl rfl (fun hc4 => ?_) (fun hc4 => ?_)
        · refine J_iconst (pc1 := 136) dX10_canForce_135 rfl ?_
          refine J_istore (pc1 := 138) (L1 := [some (.ref (B 0)), some (.int (iI p)), some (.int (iI h)), some (.int (iI one)), some (.int (iI ot)), some (.int (iI fi)), some (.int (iI r)), some (.int (iI mb)), some (.int (iI ma)), some (.int (iI x9)), some (.int (iI x10)), some (.int (iI bid)), some (.int (iI 1)), some (.int (iI 0)), some (.int (iI j)), some (.int (iI 0))]) dX10_canForce_136 rfl (by decide) rfl rfl ?_
          refine J_iinc (pc1 := 141) (L1 := [some (.ref (B 0)), some (.int (iI p)), some (.int (iI h)), some (.int (iI one)), some (.int (iI ot)), some (.int (iI fi)), some (.int (iI r)), some (.int (iI mb)), some (.int (iI ma)), some (.int (iI x9)), some (.int (iI x10)), some (.int (iI bid)), some (.int (iI 1)), some (.int (iI 0)), some (.int (iI (j + 1))), some (.int (iI 0))]) dX10_canForce_138 rfl rfl (by decide) rfl rfl ?_
          refine J_goto (tgt := 65) dX10_canForce_141 rfl ?_
          refine J_sub (L1 := [some (.ref (B 0)), some (.int (iI p)), some (.int (iI h)), some (.int (iI one)), some (.int (iI ot)), some (.int (iI fi)), some (.int (iI r)), some (.int (iI mb)), some (.int (iI ma)), some (.int (iI x9)), some (.int (iI x10)), some (.int (iI bid)), some (.int (iI 1)), some (.int (iI 0)), some (.int (iI (j + 1))), none]) ⟨rfl, rfl, rfl, rfl, rfl, rfl, rfl, rfl, rfl, rfl, rfl, rfl, rfl, rfl, rfl, trivial⟩ ?_
          refine J_L (L1 := [some (.ref (B 0)), some (.int (iI p)), some (.int (iI h)), some (.int (iI one)), some (.int (iI ot)), some (.int (iI fi)), some (.int (iI r)), some (.int (iI mb)), some (.int (iI ma)), some (.int (iI x9)), some (.int (iI x10)), some (.int (iI bid)), some (.int (iI (orI x12 (isI (ti (bhF (f 3) (f 2) p h one ot fi bid j)) r)))), some (.int (iI (anI x13 (isI (ti (bhF (f 3) (f 2) p h one ot fi bid j)) r)))), some (.int (iI (j + 1))), none]) (by rw [show (orI x12 (isI (ti (bhF (f 3) (f 2) p h one ot fi bid j)) r)) = 1 by simp only [orI, anI, isI]; (repeat' split) <;> omega, show (anI x13 (isI (ti (bhF (f 3) (f 2) p h one ot fi bid j)) r)) = 0 by simp only [orI, anI, isI]; (repeat' split) <;> omega]) ?_
          exact k
        · refine J_iload (pc1 := 128) rfl dX10_canForce_126 rfl ?_
          refine J_if_eq (pc1 := 131) (tgt := 135) (by decide) (by decide) dX10_canForce_128 rfl rfl (fun hc5 => ?_) (fun hc5 => ?_)
          · refine J_iconst (pc1 := 136) dX10_canForce_135 rfl ?_
            refine J_istore (pc1 := 138) (L1 := [some (.ref (B 0)), some (.int (iI p)), some (.int (iI h)), some (.int (iI one)), some (.int (iI ot)), some (.int (iI fi)), some (.int (iI r)), some (.int (iI mb)), some (.int (iI ma)), some (.int (iI x9)), some (.int (iI x10)), some (.int (iI bid)), some (.int (iI 1)), some (.int (iI 0)), some (.int (iI j)), some (.int (iI 0))]) dX10_canForce_136 rfl (by decide) rfl rfl ?_
            refine J_iinc (pc1 := 141) (L1 := [some (.ref (B 0)), some (.int (iI p)), some (.int (iI h)), some (.int (iI one)), some (.int (iI ot)), some (.int (iI fi)), some (.int (iI r)), some (.int (iI mb)), some (.int (iI ma)), some (.int (iI x9)), some (.int (iI x10)), some (.int (iI bid)), some (.int (iI 1)), some (.int (iI 0)), some (.int (iI (j + 1))), some (.int (iI 0))]) dX10_canForce_138 rfl rfl (by decide) rfl rfl ?_
            refine J_goto (tgt := 65) dX10_canForce_141 rfl ?_
            refine J_sub (L1 := [some (.ref (B 0)), some (.int (iI p)), some (.int (iI h)), some (.int (iI one)), some (.int (iI ot)), some (.int (iI fi)), some (.int (iI r)), some (.int (iI mb)), some (.int (iI ma)), some (.int (iI x9)), some (.int (iI x10)), some (.int (iI bid)), some (.int (iI 1)), some (.int (iI 0)), some (.int (iI (j + 1))), none]) ⟨rfl, rfl, rfl, rfl, rfl, rfl, rfl, rfl, rfl, rfl, rfl, rfl, rfl, rfl, rfl, trivial⟩ ?_
            refine J_L (L1 := [some (.ref (B 0)), some (.int (iI p)), some (.int (iI h)), some (.int (iI one)), some (.int (iI ot)), some (.int (iI fi)), some (.int (iI r)), some (.int (iI mb)), some (.int (iI ma)), some (.int (iI x9)), some (.int (iI x10)), some (.int (iI bid)), some (.int (iI (orI x12 (isI (ti (bhF (f 3) (f 2) p h one ot fi bid j)) r)))), some (.int (iI (anI x13 (isI (ti (bhF (f 3) (f 2) p h one ot fi bid j)) r)))), some (.int (iI (j + 1))), none]) (by rw [show (orI x12 (isI (ti (bhF (f 3) (f 2) p h one ot fi bid j)) r)) = 1 by simp only [orI, anI, isI]; (repeat' split) <;> omega, show (anI x13 (isI (ti (bhF (f 3) (f 2) p h one ot fi bid j)) r)) = 0 by simp only [orI, anI, isI]; (repeat' split) <;> omega]) ?_
            exact k
          · exact absurd hc5 (by decide)
      · refine J_iload (pc1 := 111) rfl dX10_canForce_109 rfl ?_
        refine J_if_eq (pc1 := 114) (tgt := 118) (by decide) (by decide) dX10_canForce_111 rfl rfl (fun hc6 => ?_) (fun hc6 => ?_)
        · refine J_iconst (pc1 := 119) dX10_canForce_118 rfl ?_
          refine J_istore (pc1 := 121) (L1 := [some (.ref (B 0)), some (.int (iI p)), some (.int (iI h)), some (.int (iI one)), some (.int (iI ot)), some (.int (iI fi)), some (.int (iI r)), some (.int (iI mb)), some (.int (iI ma)), some (.int (iI x9)), some (.int (iI x10)), some (.int (iI bid)), some (.int (iI 0)), some (.int (iI x13)), some (.int (iI j)), some (.int (iI 0))]) dX10_canForce_119 rfl (by decide) rfl rfl ?_
          refine J_iload (pc1 := 123) rfl dX10_canForce_121 rfl ?_
          refine J_if_eq (pc1 := 126) (tgt := 135) (by omega) (by omega) dX10_canForce_123 rfl rfl (fun hc7 => ?_) (fun hc7 => ?_)
          · refine J_iconst (pc1 := 136) dX10_canForce_135 rfl ?_
            refine J_istore (pc1 := 138) (L1 := [some (.ref (B 0)), some (.int (iI p)), some (.int (iI h)), some (.int (iI one)), some (.int (iI ot)), some (.int (iI fi)), some (.int (iI r)), some (.int (iI mb)), some (.int (iI ma)), some (.int (iI x9)), some (.int (iI x10)), some (.int (iI bid)), some (.int (iI 0)), some (.int (iI 0)), some (.int (iI j)), some (.int (iI 0))]) dX10_canForce_136 rfl (by decide) rfl rfl ?_
            refine J_iinc (pc1 := 141) (L1 := [some (.ref (B 0)), some (.int (iI p)), some (.int (iI h)), some (.int (iI one)), some (.int (iI ot)), some (.int (iI fi)), some (.int (iI r)), some (.int (iI mb)), some (.int (iI ma)), some (.int (iI x9)), some (.int (iI x10)), some (.int (iI bid)), some (.int (iI 0)), some (.int (iI 0)), some (.int (iI (j + 1))), some (.int (iI 0))]) dX10_canForce_138 rfl rfl (by decide) rfl rfl ?_
            refine J_goto (tgt := 65) dX10_canForce_141 rfl ?_
            refine J_sub (L1 := [some (.ref (B 0)), some (.int (iI p)), some (.int (iI h)), some (.int (iI one)), some (.int (iI ot)), some (.int (iI fi)), some (.int (iI r)), some (.int (iI mb)), some (.int (iI ma)), some (.int (iI x9)), some (.int (iI x10)), some (.int (iI bid)), some (.int (iI 0)), some (.int (iI 0)), some (.int (iI (j + 1))), none]) ⟨rfl, rfl, rfl, rfl, rfl, rfl, rfl, rfl, rfl, rfl, rfl, rfl, rfl, rfl, rfl, trivial⟩ ?_
            refine J_L (L1 := [some (.ref (B 0)), some (.int (iI p)), some (.int (iI h)), some (.int (iI one)), some (.int (iI ot)), some (.int (iI fi)), some (.int (iI r)), some (.int (iI mb)), some (.int (iI ma)), some (.int (iI x9)), some (.int (iI x10)), some (.int (iI bid)), some (.int (iI (orI x12 (isI (ti (bhF (f 3) (f 2) p h one ot fi bid j)) r)))), some (.int (iI (anI x13 (isI (ti (bhF (f 3) (f 2) p h one ot fi bid j)) r)))), some (.int (iI (j + 1))), none]) (by rw [show (orI x12 (isI (ti (bhF (f 3) (f 2) p h one ot fi bid j)) r)) = 0 by simp only [orI, anI, isI]; (repeat' split) <;> omega, show (anI x13 (isI (ti (bhF (f 3) (f 2) p h one ot fi bid j)) r)) = 0 by simp only [orI, anI, isI]; (repeat' split) <;> omega]) ?_
            exact k
          · refine J_iload (pc1 := 128) rfl dX10_canForce_126 rfl ?_
            refine J_if_eq (pc1 := 131) (tgt := 135) (by decide) (by decide) dX10_canForce_128 rfl rfl (fun hc8 => ?_) (fun hc8 => ?_)
            · refine J_iconst (pc1 := 136) dX10_canForce_135 rfl ?_
              refine J_istore (pc1 := 138) (L1 := [some (.ref (B 0)), some (.int (iI p)), some (.int (iI h)), some (.int (iI one)), some (.int (iI ot)), some (.int (iI fi)), some (.int (iI r)), some (.int (iI mb)), some (.int (iI ma)), some (.int (iI x9)), some (.int (iI x10)), some (.int (iI bid)), some (.int (iI 0)), some (.int (iI 0)), some (.int (iI j)), some (.int (iI 0))]) dX10_canForce_136 rfl (by decide) rfl rfl ?_
              refine J_iinc (pc1 := 141) (L1 := [some (.ref (B 0)), some (.int (iI p)), some (.int (iI h)), some (.int (iI one)), some (.int (iI ot)), some (.int (iI fi)), some (.int (iI r)), some (.int (iI mb)), some (.int (iI ma)), some (.int (iI x9)), some (.int (iI x10)), some (.int (iI bid)), some (.int (iI 0)), some (.int (iI 0)), some (.int (iI (j + 1))), some (.int (iI 0))]) dX10_canForce_138 rfl rfl (by decide) rfl rfl ?_
              refine J_goto (tgt := 65) dX10_canForce_141 rfl ?_
              refine J_sub (L1 := [some (.ref (B 0)), some (.int (iI p)), some (.int (iI h)), some (.int (iI one)), some (.int (iI ot)), some (.int (iI fi)), some (.int (iI r)), some (.int (iI mb)), some (.int (iI ma)), some (.int (iI x9)), some (.int (iI x10)), some (.int (iI bid)), some (.int (iI 0)), some (.int (iI 0)), some (.int (iI (j + 1))), none]) ⟨rfl, rfl, rfl, rfl, rfl, rfl, rfl, rfl, rfl, rfl, rfl, rfl, rfl, rfl, rfl, trivial⟩ ?_
              refine J_L (L1 := [some (.ref (B 0)), some (.int (iI p)), some (.int (iI h)), some (.int (iI one)), some (.int (iI ot)), some (.int (iI fi)), some (.int (iI r)), some (.int (iI mb)), some (.int (iI ma)), some (.int (iI x9)), some (.int (iI x10)), some (.int (iI bid)), some (.int (iI (orI x12 (isI (ti (bhF (f 3) (f 2) p h one ot fi bid j)) r)))), some (.int (iI (anI x13 (isI (ti (bhF (f 3) (f 2) p h one ot fi bid j)) r)))), some (.int (iI (j + 1))), none]) (by rw [show (orI x12 (isI (ti (bhF (f 3) (f 2) p h one ot fi bid j)) r)) = 0 by simp only [orI, anI, isI]; (repeat' split) <;> omega, show (anI x13 (isI (ti (bhF (f 3) (f 2) p h one ot fi bid j)) r)) = 0 by simp only [orI, anI, isI]; (repeat' split) <;> omega]) ?_
              exact k
            · exact absurd hc8 (by decide)
        · exact absurd hc6 (by decide)
    · refine J_iconst (pc1 := 98) dX10_canForce_97 rfl ?_
      refine J_goto (tgt := 102) dX10_canForce_98 rfl ?_
      refine J_istore (pc1 := 104) (L1 := [some (.ref (B 0)), some (.int (iI p)), some (.int (iI h)), some (.int (iI one)), some (.int (iI ot)), some (.int (iI fi)), some (.int (iI r)), some (.int (iI mb)), some (.int (iI ma)), some (.int (iI x9)), some (.int (iI x10)), some (.int (iI bid)), some (.int (iI x12)), some (.int (iI x13)), some (.int (iI j)), some (.int (iI 1))]) dX10_canForce_102 rfl (by decide) rfl rfl ?_
      refine J_iload (pc1 := 106) rfl dX10_canForce_104 rfl ?_
      refine J_if_ne (pc1 := 109) (tgt := 114) (by omega) (by omega) dX10_canForce_106 rfl rfl (fun hc9 => ?_) (fun hc9 => ?_)
      · refine J_iconst (pc1 := 115) dX10_canForce_114 rfl ?_
        refine J_goto (tgt := 119) dX10_canForce_115 rfl ?_
        refine J_istore (pc1 := 121) (L1 := [some (.ref (B 0)), some (.int (iI p)), some (.int (iI h)), some (.int (iI one)), some (.int (iI ot)), some (.int (iI fi)), some (.int (iI r)), some (.int (iI mb)), some (.int (iI ma)), some (.int (iI x9)), some (.int (iI x10)), some (.int (iI bid)), some (.int (iI 1)), some (.int (iI x13)), some (.int (iI j)), some (.int (iI 1))]) dX10_canForce_119 rfl (by decide) rfl rfl ?_
        refine J_iload (pc1 := 123) rfl dX10_canForce_121 rfl ?_
        refine J_if_eq (pc1 := 126) (tgt := 135) (by omega) (by omega) dX10_canForce_123 rfl rfl (fun hc10 => ?_) (fun hc10 => ?_)
        · refine J_iconst (pc1 := 136) dX10_canForce_135 rfl ?_
          refine J_istore (pc1 := 138) (L1 := [some (.ref (B 0)), some (.int (iI p)), some (.int (iI h)), some (.int (iI one)), some (.int (iI ot)), some (.int (iI fi)), some (.int (iI r)), some (.int (iI mb)), some (.int (iI ma)), some (.int (iI x9)), some (.int (iI x10)), some (.int (iI bid)), some (.int (iI 1)), some (.int (iI 0)), some (.int (iI j)), some (.int (iI 1))]) dX10_canForce_136 rfl (by decide) rfl rfl ?_
          refine J_iinc (pc1 := 141) (L1 := [some (.ref (B 0)), some (.int (iI p)), some (.int (iI h)), some (.int (iI one)), some (.int (iI ot)), some (.int (iI fi)), some (.int (iI r)), some (.int (iI mb)), some (.int (iI ma)), some (.int (iI x9)), some (.int (iI x10)), some (.int (iI bid)), some (.int (iI 1)), some (.int (iI 0)), some (.int (iI (j + 1))), some (.int (iI 1))]) dX10_canForce_138 rfl rfl (by decide) rfl rfl ?_
          refine J_goto (tgt := 65) dX10_canForce_141 rfl ?_
          refine J_sub (L1 := [some (.ref (B 0)), some (.int (iI p)), some (.int (iI h)), some (.int (iI one)), some (.int (iI ot)), some (.int (iI fi)), some (.int (iI r)), some (.int (iI mb)), some (.int (iI ma)), some (.int (iI x9)), some (.int (iI x10)), some (.int (iI bid)), some (.int (iI 1)), some (.int (iI 0)), some (.int (iI (j + 1))), none]) ⟨rfl, rfl, rfl, rfl, rfl, rfl, rfl, rfl, rfl, rfl, rfl, rfl, rfl, rfl, rfl, trivial⟩ ?_
          refine J_L (L1 := [some (.ref (B 0)), some (.int (iI p)), some (.int (iI h)), some (.int (iI one)), some (.int (iI ot)), some (.int (iI fi)), some (.int (iI r)), some (.int (iI mb)), some (.int (iI ma)), some (.int (iI x9)), some (.int (iI x10)), some (.int (iI bid)), some (.int (iI (orI x12 (isI (ti (bhF (f 3) (f 2) p h one ot fi bid j)) r)))), some (.int (iI (anI x13 (isI (ti (bhF (f 3) (f 2) p h one ot fi bid j)) r)))), some (.int (iI (j + 1))), none]) (by rw [show (orI x12 (isI (ti (bhF (f 3) (f 2) p h one ot fi bid j)) r)) = 1 by simp only [orI, anI, isI]; (repeat' split) <;> omega, show (anI x13 (isI (ti (bhF (f 3) (f 2) p h one ot fi bid j)) r)) = 0 by simp only [orI, anI, isI]; (repeat' split) <;> omega]) ?_
          exact k
        · refine J_iload (pc1 := 128) rfl dX10_canForce_126 rfl ?_
          refine J_if_eq (pc1 := 131) (tgt := 135) (by decide) (by decide) dX10_canForce_128 rfl rfl (fun hc11 => ?_) (fun hc11 => ?_)
          · exact absurd hc11 (by decide)
          · refine J_iconst (pc1 := 132) dX10_canForce_131 rfl ?_
            refine J_goto (tgt := 136) dX10_canForce_132 rfl ?_
            refine J_istore (pc1 := 138) (L1 := [some (.ref (B 0)), some (.int (iI p)), some (.int (iI h)), some (.int (iI one)), some (.int (iI ot)), some (.int (iI fi)), some (.int (iI r)), some (.int (iI mb)), some (.int (iI ma)), some (.int (iI x9)), some (.int (iI x10)), some (.int (iI bid)), some (.int (iI 1)), some (.int (iI 1)), some (.int (iI j)), some (.int (iI 1))]) dX10_canForce_136 rfl (by decide) rfl rfl ?_
            refine J_iinc (pc1 := 141) (L1 := [some (.ref (B 0)), some (.int (iI p)), some (.int (iI h)), some (.int (iI one)), some (.int (iI ot)), some (.int (iI fi)), some (.int (iI r)), some (.int (iI mb)), some (.int (iI ma)), some (.int (iI x9)), some (.int (iI x10)), some (.int (iI bid)), some (.int (iI 1)), some (.int (iI 1)), some (.int (iI (j + 1))), some (.int (iI 1))]) dX10_canForce_138 rfl rfl (by decide) rfl rfl ?_
            refine J_goto (tgt := 65) dX10_canForce_141 rfl ?_
            refine J_sub (L1 := [some (.ref (B 0)), some (.int (iI p)), some (.int (iI h)), some (.int (iI one)), some (.int (iI ot)), some (.int (iI fi)), some (.int (iI r)), some (.int (iI mb)), some (.int (iI ma)), some (.int (iI x9)), some (.int (iI x10)), some (.int (iI bid)), some (.int (iI 1)), some (.int (iI 1)), some (.int (iI (j + 1))), none]) ⟨rfl, rfl, rfl, rfl, rfl, rfl, rfl, rfl, rfl, rfl, rfl, rfl, rfl, rfl, rfl, trivial⟩ ?_
            refine J_L (L1 := [some (.ref (B 0)), some (.int (iI p)), some (.int (iI h)), some (.int (iI one)), some (.int (iI ot)), some (.int (iI fi)), some (.int (iI r)), some (.int (iI mb)), some (.int (iI ma)), some (.int (iI x9)), some (.int (iI x10)), some (.int (iI bid)), some (.int (iI (orI x12 (isI (ti (bhF (f 3) (f 2) p h one ot fi bid j)) r)))), some (.int (iI (anI x13 (isI (ti (bhF (f 3) (f 2) p h one ot fi bid j)) r)))), some (.int (iI (j + 1))), none]) (by rw [show (orI x12 (isI (ti (bhF (f 3) (f 2) p h one ot fi bid j)) r)) = 1 by simp only [orI, anI, isI]; (repeat' split) <;> omega, show (anI x13 (isI (ti (bhF (f 3) (f 2) p h one ot fi bid j)) r)) = 1 by simp only [orI, anI, isI]; (repeat' split) <;> omega]) ?_
            exact k
      · refine J_iload (pc1 := 111) rfl dX10_canForce_109 rfl ?_
        refine J_if_eq (pc1 := 114) (tgt := 118) (by decide) (by decide) dX10_canForce_111 rfl rfl (fun hc12 => ?_) (fun hc12 => ?_)
        · exact absurd hc12 (by decide)
        · refine J_iconst (pc1 := 115) dX10_canForce_114 rfl ?_
          refine J_goto (tgt := 119) dX10_canForce_115 rfl ?_
          refine J_istore (pc1 := 121) (L1 := [some (.ref (B 0)), some (.int (iI p)), some (.int (iI h)), some (.int (iI one)), some (.int (iI ot)), some (.int (iI fi)), some (.int (iI r)), some (.int (iI mb)), some (.int (iI ma)), some (.int (iI x9)), some (.int (iI x10)), some (.int (iI bid)), some (.int (iI 1)), some (.int (iI x13)), some (.int (iI j)), some (.int (iI 1))]) dX10_canForce_119 rfl (by decide) rfl rfl ?_
          refine J_iload (pc1 := 123) rfl dX10_canForce_121 rfl ?_
          refine J_if_eq (pc1 := 126) (tgt := 135) (by omega) (by omega) dX10_canForce_123 rfl rfl (fun hc13 => ?_) (fun hc13 => ?_)
          · refine J_iconst (pc1 := 136) dX10_canForce_135 rfl ?_
            refine J_istore (pc1 := 138) (L1 := [some (.ref (B 0)), some (.int (iI p)), some (.int (iI h)), some (.int (iI one)), some (.int (iI ot)), some (.int (iI fi)), some (.int (iI r)), some (.int (iI mb)), some (.int (iI ma)), some (.int (iI x9)), some (.int (iI x10)), some (.int (iI bid)), some (.int (iI 1)), some (.int (iI 0)), some (.int (iI j)), some (.int (iI 1))]) dX10_canForce_136 rfl (by decide) rfl rfl ?_
            refine J_iinc (pc1 := 141) (L1 := [some (.ref (B 0)), some (.int (iI p)), some (.int (iI h)), some (.int (iI one)), some (.int (iI ot)), some (.int (iI fi)), some (.int (iI r)), some (.int (iI mb)), some (.int (iI ma)), some (.int (iI x9)), some (.int (iI x10)), some (.int (iI bid)), some (.int (iI 1)), some (.int (iI 0)), some (.int (iI (j + 1))), some (.int (iI 1))]) dX10_canForce_138 rfl rfl (by decide) rfl rfl ?_
            refine J_goto (tgt := 65) dX10_canForce_141 rfl ?_
            refine J_sub (L1 := [some (.ref (B 0)), some (.int (iI p)), some (.int (iI h)), some (.int (iI one)), some (.int (iI ot)), some (.int (iI fi)), some (.int (iI r)), some (.int (iI mb)), some (.int (iI ma)), some (.int (iI x9)), some (.int (iI x10)), some (.int (iI bid)), some (.int (iI 1)), some (.int (iI 0)), some (.int (iI (j + 1))), none]) ⟨rfl, rfl, rfl, rfl, rfl, rfl, rfl, rfl, rfl, rfl, rfl, rfl, rfl, rfl, rfl, trivial⟩ ?_
            refine J_L (L1 := [some (.ref (B 0)), some (.int (iI p)), some (.int (iI h)), some (.int (iI one)), some (.int (iI ot)), some (.int (iI fi)), some (.int (iI r)), some (.int (iI mb)), some (.int (iI ma)), some (.int (iI x9)), some (.int (iI x10)), some (.int (iI bid)), some (.int (iI (orI x12 (isI (ti (bhF (f 3) (f 2) p h one ot fi bid j)) r)))), some (.int (iI (anI x13 (isI (ti (bhF (f 3) (f 2) p h one ot fi bid j)) r)))), some (.int (iI (j + 1))), none]) (by rw [show (orI x12 (isI (ti (bhF (f 3) (f 2) p h one ot fi bid j)) r)) = 1 by simp only [orI, anI, isI]; (repeat' split) <;> omega, show (anI x13 (isI (ti (bhF (f 3) (f 2) p h one ot fi bid j)) r)) = 0 by simp only [orI, anI, isI]; (repeat' split) <;> omega]) ?_
            exact k
          · refine J_iload (pc1 := 128) rfl dX10_canForce_126 rfl ?_
            refine J_if_eq (pc1 := 131) (tgt := 135) (by decide) (by decide) dX10_canForce_128 rfl rfl (fun hc14 => ?_) (fun hc14 => ?_)
            · exact absurd hc14 (by decide)
            · refine J_iconst (pc1 := 132) dX10_canForce_131 rfl ?_
              refine J_goto (tgt := 136) dX10_canForce_132 rfl ?_
              refine J_istore (pc1 := 138) (L1 := [some (.ref (B 0)), some (.int (iI p)), some (.int (iI h)), some (.int (iI one)), some (.int (iI ot)), some (.int (iI fi)), some (.int (iI r)), some (.int (iI mb)), some (.int (iI ma)), some (.int (iI x9)), some (.int (iI x10)), some (.int (iI bid)), some (.int (iI 1)), some (.int (iI 1)), some (.int (iI j)), some (.int (iI 1))]) dX10_canForce_136 rfl (by decide) rfl rfl ?_
              refine J_iinc (pc1 := 141) (L1 := [some (.ref (B 0)), some (.int (iI p)), some (.int (iI h)), some (.int (iI one)), some (.int (iI ot)), some (.int (iI fi)), some (.int (iI r)), some (.int (iI mb)), some (.int (iI ma)), some (.int (iI x9)), some (.int (iI x10)), some (.int (iI bid)), some (.int (iI 1)), some (.int (iI 1)), some (.int (iI (j + 1))), some (.int (iI 1))]) dX10_canForce_138 rfl rfl (by decide) rfl rfl ?_
              refine J_goto (tgt := 65) dX10_canForce_141 rfl ?_
              refine J_sub (L1 := [some (.ref (B 0)), some (.int (iI p)), some (.int (iI h)), some (.int (iI one)), some (.int (iI ot)), some (.int (iI fi)), some (.int (iI r)), some (.int (iI mb)), some (.int (iI ma)), some (.int (iI x9)), some (.int (iI x10)), some (.int (iI bid)), some (.int (iI 1)), some (.int (iI 1)), some (.int (iI (j + 1))), none]) ⟨rfl, rfl, rfl, rfl, rfl, rfl, rfl, rfl, rfl, rfl, rfl, rfl, rfl, rfl, rfl, trivial⟩ ?_
              refine J_L (L1 := [some (.ref (B 0)), some (.int (iI p)), some (.int (iI h)), some (.int (iI one)), some (.int (iI ot)), some (.int (iI fi)), some (.int (iI r)), some (.int (iI mb)), some (.int (iI ma)), some (.int (iI x9)), some (.int (iI x10)), some (.int (iI bid)), some (.int (iI (orI x12 (isI (ti (bhF (f 3) (f 2) p h one ot fi bid j)) r)))), some (.int (iI (anI x13 (isI (ti (bhF (f 3) (f 2) p h one ot fi bid j)) r)))), some (.int (iI (j + 1))), none]) (by rw [show (orI x12 (isI (ti (bhF (f 3) (f 2) p h one ot fi bid j)) r)) = 1 by simp only [orI, anI, isI]; (repeat' split) <;> omega, show (anI x13 (isI (ti (bhF (f 3) (f 2) p h one ot fi bid j)) r)) = 1 by simp only [orI, anI, isI]; (repeat' split) <;> omega]) ?_
              exact k
set_option maxHeartbeats 2000000 in
set_option maxRecDepth 20000 in
theorem cf_j {S : pS} {B : Nat → Nat} {f hs sl sv ti tx to : Int → Int} {n ik kr ks L sp nu rd : Int} (W : MW S B f hs sl sv ti tx to n ik kr ks L sp nu rd) {K : Option Value → pS → Prop} {p h one ot fi r : Int} (h1 : 0 ≤ f 1 ∧ f 1 ≤ 2) (h2 : f 2 = 0 ∨ f 2 = 1) (h3 : f 3 = 0 ∨ f 3 = 1) (hp : p = 0 ∨ p = 1) (hf : fi = 0 ∨ fi = 1) (hr : 0 ≤ r ∧ r ≤ 9) (ho : -2 ≤ one ∧ one ≤ 24) (ht : -2 ≤ ot ∧ ot ≤ 24) {mb ma x9 x10 bid x12 x13 j : Int} (q9 : x9 = 0 ∨ x9 = 1) (q10 : x10 = 0 ∨ x10 = 1) (q12 : x12 = 0 ∨ x12 = 1) (q13 : x13 = 0 ∨ x13 = 1) (hmb : 0 ≤ mb ∧ mb ≤ 100) (hma : 0 ≤ ma ∧ ma ≤ 100) (hbid : 0 ≤ bid ∧ bid ≤ 200) (hj : 0 ≤ j ∧ j ≤ 200) (hjm : ma < j) (k : Jd yX10_canForce cX10_canForce 16 (Option.some FieldType.boolean) 2 0 0 K 0 0 S 49 [some (.ref (B 0)), some (.int (iI p)), some (.int (iI h)), some (.int (iI one)), some (.int (iI ot)), some (.int (iI fi)), some (.int (iI r)), some (.int (iI mb)), some (.int (iI ma)), some (.int (iI (orI x9 x13))), some (.int (iI (anI x10 x12))), some (.int (iI (bid + 1))), none, none, none, none] []) : Jd yX10_canForce cX10_canForce 16 (Option.some FieldType.boolean) 2 0 0 K 0 0 S 65 [some (.ref (B 0)), some (.int (iI p)), some (.int (iI h)), some (.int (iI one)), some (.int (iI ot)), some (.int (iI fi)), some (.int (iI r)), some (.int (iI mb)), some (.int (iI ma)), some (.int (iI x9)), some (.int (iI x10)), some (.int (iI bid)), some (.int (iI x12)), some (.int (iI x13)), some (.int (iI j)), none] [] := by
  show Jd yX10_canForce cX10_canForce 16 (Option.some FieldType.boolean) 2 0 0 K 0 0 S 65 [some (.ref (B 0)), some (.int (iI p)), some (.int (iI h)), some (.int (iI one)), some (.int (iI ot)), some (.int (iI fi)), some (.int (iI r)), some (.int (iI mb)), some (.int (iI ma)), some (.int (iI x9)), some (.int (iI x10)), some (.int (iI bid)), some (.int (iI x12)), some (.int (iI x13)), some (.int (iI j)), none] []
  refine J_iload (pc1 := 67) rfl dX10_canForce_65 rfl ?_
  refine J_iload (pc1 := 69) rfl dX10_canForce_67 rfl ?_
  refine J_icmp_gt (pc1 := 72) (tgt := 144) (by omega) (by omega) (by omega) (by omega) dX10_canForce_69 rfl rfl (fun hc1 => ?_) (fun hc1 => ?_)
  · refine J_iload (pc1 := 146) rfl dX10_canForce_144 rfl ?_
    refine J_if_ne (pc1 := 149) (tgt := 154) (by omega) (by omega) dX10_canForce_146 rfl rfl (fun hc2 => ?_) (fun hc2 => ?_)
    · refine J_iconst (pc1 := 155) dX10_canForce_154 rfl ?_
      refine J_goto (tgt := 159) dX10_canForce_155 rfl ?_
      refine J_istore (pc1 := 161) (L1 := [some (.ref (B 0)), some (.int (iI p)), some (.int (iI h)), some (.int (iI one)), some (.int (iI ot)), some (.int (iI fi)), some (.int (iI r)), some (.int (iI mb)), some (.int (iI ma)), some (.int (iI 1)), some (.int (iI x10)), some (.int (iI bid)), some (.int (iI x12)), some (.int (iI x13)), some (.int (iI j)), none]) dX10_canForce_159 rfl (by decide) rfl rfl ?_
      refine J_iload (pc1 := 163) rfl dX10_canForce_161 rfl ?_
      refine J_if_eq (pc1 := 166) (tgt := 175) (by omega) (by omega) dX10_canForce_163 rfl rfl (fun hc3 => ?_) (fun hc3 => ?_)
      · refine J_iconst (pc1 := 176) dX10_canForce_175 rfl ?_
        refine J_istore (pc1 := 178) (L1 := [some (.ref (B 0)), some (.int (iI p)), some (.int (iI h)), some (.int (iI one)), some (.int (iI ot)), some (.int (iI fi)), some (.int (iI r)), some (.int (iI mb)), some (.int (iI ma)), some (.int (iI 1)), some (.int (iI 0)), some (.int (iI bid)), some (.int (iI x12)), some (.int (iI x13)), some (.int (iI j)), none]) dX10_canForce_176 rfl (by decide) rfl rfl ?_
        refine J_iinc (pc1 := 181) (L1 := [some (.ref (B 0)), some (.int (iI p)), some (.int (iI h)), some (.int (iI one)), some (.int (iI ot)), some (.int (iI fi)), some (.int (iI r)), some (.int (iI mb)), some (.int (iI ma)), some (.int (iI 1)), some (.int (iI 0)), some (.int (iI (bid + 1))), some (.int (iI x12)), some (.int (iI x13)), some (.int (iI j)), none]) dX10_canForce_178 rfl rfl (by decide) rfl rfl ?_
        refine J_goto (tgt := 49) dX10_canForce_181 rfl ?_
        refine J_sub (L1 := [some (.ref (B 0)), some (.int (iI p)), some (.int (iI h)), some (.int (iI one)), some (.int (iI ot)), some (.int (iI fi)), some (.int (iI r)), some (.int (iI mb)), some (.int (iI ma)), some (.int (iI 1)), some (.int (iI 0)), some (.int (iI (bid + 1))), none, none, none, none]) ⟨rfl, rfl, rfl, rfl, rfl, rfl, rfl, rfl, rfl, rfl, rfl, rfl, trivial⟩ ?_
        refine J_L (L1 := [some (.ref (B 0)), some (.int (iI p)), some (.int (iI h)), some (.int (iI one)), some (.int (iI ot)), some (.int (iI fi)), some (.int (iI r)), some (.int (iI mb)), some (.int (iI ma)), some (.int (iI (orI x9 x13))), some (.int (iI (anI x10 x12))), some (.int (iI (bid + 1))), none, none, none, none]) (by rw [show (orI x9 x13) = 1 by simp only [orI, anI, isI]; (repeat' split) <;> omega, show (anI x10 x12) = 0 by simp only [orI, anI, isI]; (repeat' split) <;> omega]) ?_
        exact k
      · refine J_iload (pc1 := 168) rfl dX10_canForce_166 rfl ?_
        refine J_if_eq (pc1 := 171) (tgt := 175) (by omega) (by omega) dX10_canForce_168 rfl rfl (fun hc4 => ?_) (fun hc4 => ?_)
        · refine J_iconst (pc1 := 176) dX10_canForce_175 rfl ?_
          refine J_istore (pc1 := 178) (L1 := [some (.ref (B 0)), some (.int (iI p)), some (.int (iI h)), some (.int (iI one)), some (.int (iI ot)), some (.int (iI fi)), some (.int (iI r)), some (.int (iI mb)), some (.int (iI ma)), some (.int (iI 1)), some (.int (iI 0)), some (.int (iI bid)), some (.int (iI x12)), some (.int (iI x13)), some (.int (iI j)), none]) dX10_canForce_176 rfl (by decide) rfl rfl ?_
          refine J_iinc (pc1 := 181) (L1 := [some (.ref (B 0)), some (.int (iI p)), some (.int (iI h)), some (.int (iI one)), some (.int (iI ot)), some (.int (iI fi)), some (.int (iI r)), some (.int (iI mb)), some (.int (iI ma)), some (.int (iI 1)), some (.int (iI 0)), some (.int (iI (bid + 1))), some (.int (iI x12)), some (.int (iI x13)), some (.int (iI j)), none]) dX10_canForce_178 rfl rfl (by decide) rfl rfl ?_
          refine J_goto (tgt := 49) dX10_canForce_181 rfl ?_
          refine J_sub (L1 := [some (.ref (B 0)), some (.int (iI p)), some (.int (iI h)), some (.int (iI one)), some (.int (iI ot)), some (.int (iI fi)), some (.int (iI r)), some (.int (iI mb)), some (.int (iI ma)), some (.int (iI 1)), some (.int (iI 0)), some (.int (iI (bid + 1))), none, none, none, none]) ⟨rfl, rfl, rfl, rfl, rfl, rfl, rfl, rfl, rfl, rfl, rfl, rfl, trivial⟩ ?_
          refine J_L (L1 := [some (.ref (B 0)), some (.int (iI p)), some (.int (iI h)), some (.int (iI one)), some (.int (iI ot)), some (.int (iI fi)), some (.int (iI r)), some (.int (iI mb)), some (.int (iI ma)), some (.int (iI (orI x9 x13))), some (.int (iI (anI x10 x12))), some (.int (iI (bid + 1))), none, none, none, none]) (by rw [show (orI x9 x13) = 1 by simp only [orI, anI, isI]; (repeat' split) <;> omega, show (anI x10 x12) = 0 by simp only [orI, anI, isI]; (repeat' split) <;> omega]) ?_
          exact k
        · refine J_iconst (pc1 := 172) dX10_canForce_171 rfl ?_
          refine J_goto (tgt := 176) dX10_canForce_172 rfl ?_
          refine J_istore (pc1 := 178) (L1 := [some (.ref (B 0)), some (.int (iI p)), some (.int (iI h)), some (.int (iI one)), some (.int (iI ot)), some (.int (iI fi)), some (.int (iI r)), some (.int (iI mb)), some (.int (iI ma)), some (.int (iI 1)), some (.int (iI 1)), some (.int (iI bid)), some (.int (iI x12)), some (.int (iI x13)), some (.int (iI j)), none]) dX10_canForce_176 rfl (by decide) rfl rfl ?_
          refine J_iinc (pc1 := 181) (L1 := [some (.ref (B 0)), some (.int (iI p)), some (.int (iI h)), some (.int (iI one)), some (.int (iI ot)), some (.int (iI fi)), some (.int (iI r)), some (.int (iI mb)), some (.int (iI ma)), some (.int (iI 1)), some (.int (iI 1)), some (.int (iI (bid + 1))), some (.int (iI x12)), some (.int (iI x13)), some (.int (iI j)), none]) dX10_canForce_178 rfl rfl (by decide) rfl rfl ?_
          refine J_goto (tgt := 49) dX10_canForce_181 rfl ?_
          refine J_sub (L1 := [some (.ref (B 0)), some (.int (iI p)), some (.int (iI h)), some (.int (iI one)), some (.int (iI ot)), some (.int (iI fi)), some (.int (iI r)), some (.int (iI mb)), some (.int (iI ma)), some (.int (iI 1)), some (.int (iI 1)), some (.int (iI (bid + 1))), none, none, none, none]) ⟨rfl, rfl, rfl, rfl, rfl, rfl, rfl, rfl, rfl, rfl, rfl, rfl, trivial⟩ ?_
          refine J_L (L1 := [some (.ref (B 0)), some (.int (iI p)), some (.int (iI h)), some (.int (iI one)), some (.int (iI ot)), some (.int (iI fi)), some (.int (iI r)), some (.int (iI mb)), some (.int (iI ma)), some (.int (iI (orI x9 x13))), some (.int (iI (anI x10 x12))), some (.int (iI (bid + 1))), none, none, none, none]) (by rw [show (orI x9 x13) = 1 by simp only [orI, anI, isI]; (repeat' split) <;> omega, show (anI x10 x12) = 1 by simp only [orI, anI, isI]; (repeat' split) <;> omega]) ?_
          exact k
    · refine J_iload (pc1 := 151) rfl dX10_canForce_149 rfl ?_
      refine J_if_eq (pc1 := 154) (tgt := 158) (by omega) (by omega) dX10_canForce_151 rfl rfl (fun hc5 => ?_) (fun hc5 => ?_)
      · refine J_iconst (pc1 := 159) dX10_canForce_158 rfl ?_
        refine J_istore (pc1 := 161) (L1 := [some (.ref (B 0)), some (.int (iI p)), some (.int (iI h)), some (.int (iI one)), some (.int (iI ot)), some (.int (iI fi)), some (.int (iI r)), some (.int (iI mb)), some (.int (iI ma)), some (.int (iI 0)), some (.int (iI x10)), some (.int (iI bid)), some (.int (iI x12)), some (.int (iI x13)), some (.int (iI j)), none]) dX10_canForce_159 rfl (by decide) rfl rfl ?_
        refine J_iload (pc1 := 163) rfl dX10_canForce_161 rfl ?_
        refine J_if_eq (pc1 := 166) (tgt := 175) (by omega) (by omega) dX10_canForce_163 rfl rfl (fun hc6 => ?_) (fun hc6 => ?_)
        · refine J_iconst (pc1 := 176) dX10_canForce_175 rfl ?_
          refine J_istore (pc1 := 178) (L1 := [some (.ref (B 0)), some (.int (iI p)), some (.int (iI h)), some (.int (iI one)), some (.int (iI ot)), some (.int (iI fi)), some (.int (iI r)), some (.int (iI mb)), some (.int (iI ma)), some (.int (iI 0)), some (.int (iI 0)), some (.int (iI bid)), some (.int (iI x12)), some (.int (iI x13)), some (.int (iI j)), none]) dX10_canForce_176 rfl (by decide) rfl rfl ?_
          refine J_iinc (pc1 := 181) (L1 := [some (.ref (B 0)), some (.int (iI p)), some (.int (iI h)), some (.int (iI one)), some (.int (iI ot)), some (.int (iI fi)), some (.int (iI r)), some (.int (iI mb)), some (.int (iI ma)), some (.int (iI 0)), some (.int (iI 0)), some (.int (iI (bid + 1))), some (.int (iI x12)), some (.int (iI x13)), some (.int (iI j)), none]) dX10_canForce_178 rfl rfl (by decide) rfl rfl ?_
          refine J_goto (tgt := 49) dX10_canForce_181 rfl ?_
          refine J_sub (L1 := [some (.ref (B 0)), some (.int (iI p)), some (.int (iI h)), some (.int (iI one)), some (.int (iI ot)), some (.int (iI fi)), some (.int (iI r)), some (.int (iI mb)), some (.int (iI ma)), some (.int (iI 0)), some (.int (iI 0)), some (.int (iI (bid + 1))), none, none, none, none]) ⟨rfl, rfl, rfl, rfl, rfl, rfl, rfl, rfl, rfl, rfl, rfl, rfl, trivial⟩ ?_
          refine J_L (L1 := [some (.ref (B 0)), some (.int (iI p)), some (.int (iI h)), some (.int (iI one)), some (.int (iI ot)), some (.int (iI fi)), some (.int (iI r)), some (.int (iI mb)), some (.int (iI ma)), some (.int (iI (orI x9 x13))), some (.int (iI (anI x10 x12))), some (.int (iI (bid + 1))), none, none, none, none]) (by rw [show (orI x9 x13) = 0 by simp only [orI, anI, isI]; (repeat' split) <;> omega, show (anI x10 x12) = 0 by simp only [orI, anI, isI]; (repeat' split) <;> omega]) ?_
          exact k
        · refine J_iload (pc1 := 168) rfl dX10_canForce_166 rfl ?_
          refine J_if_eq (pc1 := 171) (tgt := 175) (by omega) (by omega) dX10_canForce_168 rfl rfl (fun hc7 => ?_) (fun hc7 => ?_)
          · refine J_iconst (pc1 := 176) dX10_canForce_175 rfl ?_
            refine J_istore (pc1 := 178) (L1 := [some (.ref (B 0)), some (.int (iI p)), some (.int (iI h)), some (.int (iI one)), some (.int (iI ot)), some (.int (iI fi)), some (.int (iI r)), some (.int (iI mb)), some (.int (iI ma)), some (.int (iI 0)), some (.int (iI 0)), some (.int (iI bid)), some (.int (iI x12)), some (.int (iI x13)), some (.int (iI j)), none]) dX10_canForce_176 rfl (by decide) rfl rfl ?_
            refine J_iinc (pc1 := 181) (L1 := [some (.ref (B 0)), some (.int (iI p)), some (.int (iI h)), some (.int (iI one)), some (.int (iI ot)), some (.int (iI fi)), some (.int (iI r)), some (.int (iI mb)), some (.int (iI ma)), some (.int (iI 0)), some (.int (iI 0)), some (.int (iI (bid + 1))), some (.int (iI x12)), some (.int (iI x13)), some (.int (iI j)), none]) dX10_canForce_178 rfl rfl (by decide) rfl rfl ?_
            refine J_goto (tgt := 49) dX10_canForce_181 rfl ?_
            refine J_sub (L1 := [some (.ref (B 0)), some (.int (iI p)), some (.int (iI h)), some (.int (iI one)), some (.int (iI ot)), some (.int (iI fi)), some (.int (iI r)), some (.int (iI mb)), some (.int (iI ma)), some (.int (iI 0)), some (.int (iI 0)), some (.int (iI (bid + 1))), none, none, none, none]) ⟨rfl, rfl, rfl, rfl, rfl, rfl, rfl, rfl, rfl, rfl, rfl, rfl, trivial⟩ ?_
            refine J_L (L1 := [some (.ref (B 0)), some (.int (iI p)), some (.int (iI h)), some (.int (iI one)), some (.int (iI ot)), some (.int (iI fi)), some (.int (iI r)), some (.int (iI mb)), some (.int (iI ma)), some (.int (iI (orI x9 x13))), some (.int (iI (anI x10 x12))), some (.int (iI (bid + 1))), none, none, none, none]) (by rw [show (orI x9 x13) = 0 by simp only [orI, anI, isI]; (repeat' split) <;> omega, show (anI x10 x12) = 0 by simp only [orI, anI, isI]; (repeat' split) <;> omega]) ?_
            exact k
          · refine J_iconst (pc1 := 172) dX10_canForce_171 rfl ?_
            refine J_goto (tgt := 176) dX10_canForce_172 rfl ?_
            refine J_istore (pc1 := 178) (L1 := [some (.ref (B 0)), some (.int (iI p)), some (.int (iI h)), some (.int (iI one)), some (.int (iI ot)), some (.int (iI fi)), some (.int (iI r)), some (.int (iI mb)), some (.int (iI ma)), some (.int (iI 0)), some (.int (iI 1)), some (.int (iI bid)), some (.int (iI x12)), some (.int (iI x13)), some (.int (iI j)), none]) dX10_canForce_176 rfl (by decide) rfl rfl ?_
            refine J_iinc (pc1 := 181) (L1 := [some (.ref (B 0)), some (.int (iI p)), some (.int (iI h)), some (.int (iI one)), some (.int (iI ot)), some (.int (iI fi)), some (.int (iI r)), some (.int (iI mb)), some (.int (iI ma)), some (.int (iI 0)), some (.int (iI 1)), some (.int (iI (bid + 1))), some (.int (iI x12)), some (.int (iI x13)), some (.int (iI j)), none]) dX10_canForce_178 rfl rfl (by decide) rfl rfl ?_
            refine J_goto (tgt := 49) dX10_canForce_181 rfl ?_
            refine J_sub (L1 := [some (.ref (B 0)), some (.int (iI p)), some (.int (iI h)), some (.int (iI one)), some (.int (iI ot)), some (.int (iI fi)), some (.int (iI r)), some (.int (iI mb)), some (.int (iI ma)), some (.int (iI 0)), some (.int (iI 1)), some (.int (iI (bid + 1))), none, none, none, none]) ⟨rfl, rfl, rfl, rfl, rfl, rfl, rfl, rfl, rfl, rfl, rfl, rfl, trivial⟩ ?_
            refine J_L (L1 := [some (.ref (B 0)), some (.int (iI p)), some (.int (iI h)), some (.int (iI one)), some (.int (iI ot)), some (.int (iI fi)), some (.int (iI r)), some (.int (iI mb)), some (.int (iI ma)), some (.int (iI (orI x9 x13))), some (.int (iI (anI x10 x12))), some (.int (iI (bid + 1))), none, none, none, none]) (by rw [show (orI x9 x13) = 0 by simp only [orI, anI, isI]; (repeat' split) <;> omega, show (anI x10 x12) = 1 by simp only [orI, anI, isI]; (repeat' split) <;> omega]) ?_
            exact k
      · refine J_iconst (pc1 := 155) dX10_canForce_154 rfl ?_
        refine J_goto (tgt := 159) dX10_canForce_155 rfl ?_
        refine J_istore (pc1 := 161) (L1 := [some (.ref (B 0)), some (.int (iI p)), some (.int (iI h)), some (.int (iI one)), some (.int (iI ot)), some (.int (iI fi)), some (.int (iI r)), some (.int (iI mb)), some (.int (iI ma)), some (.int (iI 1)), some (.int (iI x10)), some (.int (iI bid)), some (.int (iI x12)), some (.int (iI x13)), some (.int (iI j)), none]) dX10_canForce_159 rfl (by decide) rfl rfl ?_
        refine J_iload (pc1 := 163) rfl dX10_canForce_161 rfl ?_
        refine J_if_eq (pc1 := 166) (tgt := 175) (by omega) (by omega) dX10_canForce_163 rfl rfl (fun hc8 => ?_) (fun hc8 => ?_)
        · refine J_iconst (pc1 := 176) dX10_canForce_175 rfl ?_
          refine J_istore (pc1 := 178) (L1 := [some (.ref (B 0)), some (.int (iI p)), some (.int (iI h)), some (.int (iI one)), some (.int (iI ot)), some (.int (iI fi)), some (.int (iI r)), some (.int (iI mb)), some (.int (iI ma)), some (.int (iI 1)), some (.int (iI 0)), some (.int (iI bid)), some (.int (iI x12)), some (.int (iI x13)), some (.int (iI j)), none]) dX10_canForce_176 rfl (by decide) rfl rfl ?_
          refine J_iinc (pc1 := 181) (L1 := [some (.ref (B 0)), some (.int (iI p)), some (.int (iI h)), some (.int (iI one)), some (.int (iI ot)), some (.int (iI fi)), some (.int (iI r)), some (.int (iI mb)), some (.int (iI ma)), some (.int (iI 1)), some (.int (iI 0)), some (.int (iI (bid + 1))), some (.int (iI x12)), some (.int (iI x13)), some (.int (iI j)), none]) dX10_canForce_178 rfl rfl (by decide) rfl rfl ?_
          refine J_goto (tgt := 49) dX10_canForce_181 rfl ?_
          refine J_sub (L1 := [some (.ref (B 0)), some (.int (iI p)), some (.int (iI h)), some (.int (iI one)), some (.int (iI ot)), some (.int (iI fi)), some (.int (iI r)), some (.int (iI mb)), some (.int (iI ma)), some (.int (iI 1)), some (.int (iI 0)), some (.int (iI (bid + 1))), none, none, none, none]) ⟨rfl, rfl, rfl, rfl, rfl, rfl, rfl, rfl, rfl, rfl, rfl, rfl, trivial⟩ ?_
          refine J_L (L1 := [some (.ref (B 0)), some (.int (iI p)), some (.int (iI h)), some (.int (iI one)), some (.int (iI ot)), some (.int (iI fi)), some (.int (iI r)), some (.int (iI mb)), some (.int (iI ma)), some (.int (iI (orI x9 x13))), some (.int (iI (anI x10 x12))), some (.int (iI (bid + 1))), none, none, none, none]) (by rw [show (orI x9 x13) = 1 by simp only [orI, anI, isI]; (repeat' split) <;> omega, show (anI x10 x12) = 0 by simp only [orI, anI, isI]; (repeat' split) <;> omega]) ?_
          exact k
        · refine J_iload (pc1 := 168) rfl dX10_canForce_166 rfl ?_
          refine J_if_eq (pc1 := 171) (tgt := 175) (by omega) (by omega) dX10_canForce_168 rfl rfl (fun hc9 => ?_) (fun hc9 => ?_)
          · refine J_iconst (pc1 := 176) dX10_canForce_175 rfl ?_
            refine J_istore (pc1 := 178) (L1 := [some (.ref (B 0)), some (.int (iI p)), some (.int (iI h)), some (.int (iI one)), some (.int (iI ot)), some (.int (iI fi)), some (.int (iI r)), some (.int (iI mb)), some (.int (iI ma)), some (.int (iI 1)), some (.int (iI 0)), some (.int (iI bid)), some (.int (iI x12)), some (.int (iI x13)), some (.int (iI j)), none]) dX10_canForce_176 rfl (by decide) rfl rfl ?_
            refine J_iinc (pc1 := 181) (L1 := [some (.ref (B 0)), some (.int (iI p)), some (.int (iI h)), some (.int (iI one)), some (.int (iI ot)), some (.int (iI fi)), some (.int (iI r)), some (.int (iI mb)), some (.int (iI ma)), some (.int (iI 1)), some (.int (iI 0)), some (.int (iI (bid + 1))), some (.int (iI x12)), some (.int (iI x13)), some (.int (iI j)), none]) dX10_canForce_178 rfl rfl (by decide) rfl rfl ?_
            refine J_goto (tgt := 49) dX10_canForce_181 rfl ?_
            refine J_sub (L1 := [some (.ref (B 0)), some (.int (iI p)), some (.int (iI h)), some (.int (iI one)), some (.int (iI ot)), some (.int (iI fi)), some (.int (iI r)), some (.int (iI mb)), some (.int (iI ma)), some (.int (iI 1)), some (.int (iI 0)), some (.int (iI (bid + 1))), none, none, none, none]) ⟨rfl, rfl, rfl, rfl, rfl, rfl, rfl, rfl, rfl, rfl, rfl, rfl, trivial⟩ ?_
            refine J_L (L1 := [some (.ref (B 0)), some (.int (iI p)), some (.int (iI h)), some (.int (iI one)), some (.int (iI ot)), some (.int (iI fi)), some (.int (iI r)), some (.int (iI mb)), some (.int (iI ma)), some (.int (iI (orI x9 x13))), some (.int (iI (anI x10 x12))), some (.int (iI (bid + 1))), none, none, none, none]) (by rw [show (orI x9 x13) = 1 by simp only [orI, anI, isI]; (repeat' split) <;> omega, show (anI x10 x12) = 0 by simp only [orI, anI, isI]; (repeat' split) <;> omega]) ?_
            exact k
          · refine J_iconst (pc1 := 172) dX10_canForce_171 rfl ?_
            refine J_goto (tgt := 176) dX10_canForce_172 rfl ?_
            refine J_istore (pc1 := 178) (L1 := [some (.ref (B 0)), some (.int (iI p)), some (.int (iI h)), some (.int (iI one)), some (.int (iI ot)), some (.int (iI fi)), some (.int (iI r)), some (.int (iI mb)), some (.int (iI ma)), some (.int (iI 1)), some (.int (iI 1)), some (.int (iI bid)), some (.int (iI x12)), some (.int (iI x13)), some (.int (iI j)), none]) dX10_canForce_176 rfl (by decide) rfl rfl ?_
            refine J_iinc (pc1 := 181) (L1 := [some (.ref (B 0)), some (.int (iI p)), some (.int (iI h)), some (.int (iI one)), some (.int (iI ot)), some (.int (iI fi)), some (.int (iI r)), some (.int (iI mb)), some (.int (iI ma)), some (.int (iI 1)), some (.int (iI 1)), some (.int (iI (bid + 1))), some (.int (iI x12)), some (.int (iI x13)), some (.int (iI j)), none]) dX10_canForce_178 rfl rfl (by decide) rfl rfl ?_
            refine J_goto (tgt := 49) dX10_canForce_181 rfl ?_
            refine J_sub (L1 := [some (.ref (B 0)), some (.int (iI p)), some (.int (iI h)), some (.int (iI one)), some (.int (iI ot)), some (.int (iI fi)), some (.int (iI r)), some (.int (iI mb)), some (.int (iI ma)), some (.int (iI 1)), some (.int (iI 1)), some (.int (iI (bid + 1))), none, none, none, none]) ⟨rfl, rfl, rfl, rfl, rfl, rfl, rfl, rfl, rfl, rfl, rfl, rfl, trivial⟩ ?_
            refine J_L (L1 := [some (.ref (B 0)), some (.int (iI p)), some (.int (iI h)), some (.int (iI one)), some (.int (iI ot)), some (.int (iI fi)), some (.int (iI r)), some (.int (iI mb)), some (.int (iI ma)), some (.int (iI (orI x9 x13))), some (.int (iI (anI x10 x12))), some (.int (iI (bid + 1))), none, none, none, none]) (by rw [show (orI x9 x13) = 1 by simp only [orI, anI, isI]; (repeat' split) <;> omega, show (anI x10 x12) = 1 by simp only [orI, anI, isI]; (repeat' split) <;> omega]) ?_
            exact k
  · exact absurd hc1 (by omega)
set_option maxHeartbeats 1000000 in
set_option maxRecDepth 20000 in
theorem cf_x {S : pS} {B : Nat → Nat} {f hs sl sv ti tx to : Int → Int} {n ik kr ks L sp nu rd : Int} (W : MW S B f hs sl sv ti tx to n ik kr ks L sp nu rd) {K : Option Value → pS → Prop} {p h one ot fi r : Int} (h1 : 0 ≤ f 1 ∧ f 1 ≤ 2) (h2 : f 2 = 0 ∨ f 2 = 1) (h3 : f 3 = 0 ∨ f 3 = 1) (hp : p = 0 ∨ p = 1) (hf : fi = 0 ∨ fi = 1) (hr : 0 ≤ r ∧ r ≤ 9) (ho : -2 ≤ one ∧ one ≤ 24) (ht : -2 ≤ ot ∧ ot ≤ 24) {mb ma x9 x10 bid : Int} (q9 : x9 = 0 ∨ x9 = 1) (q10 : x10 = 0 ∨ x10 = 1) (hmb : 0 ≤ mb ∧ mb ≤ 100) (hma : 0 ≤ ma ∧ ma ≤ 100) (hbid : 0 ≤ bid ∧ bid ≤ 200) (hb : mb < bid) (hK : K (some (.int (iI (if p = fi then x9 else x10)))) S)  : Jd yX10_canForce cX10_canForce 16 (Option.some FieldType.boolean) 2 0 0 K 0 0 S 49 [some (.ref (B 0)), some (.int (iI p)), some (.int (iI h)), some (.int (iI one)), some (.int (iI ot)), some (.int (iI fi)), some (.int (iI r)), some (.int (iI mb)), some (.int (iI ma)), some (.int (iI x9)), some (.int (iI x10)), some (.int (iI bid)), none, none, none, none] [] := by
  show Jd yX10_canForce cX10_canForce 16 (Option.some FieldType.boolean) 2 0 0 K 0 0 S 49 [some (.ref (B 0)), some (.int (iI p)), some (.int (iI h)), some (.int (iI one)), some (.int (iI ot)), some (.int (iI fi)), some (.int (iI r)), some (.int (iI mb)), some (.int (iI ma)), some (.int (iI x9)), some (.int (iI x10)), some (.int (iI bid)), none, none, none, none] []
  refine J_iload (pc1 := 51) rfl dX10_canForce_49 rfl ?_
  refine J_iload (pc1 := 53) rfl dX10_canForce_51 rfl ?_
  refine J_icmp_gt (pc1 := 56) (tgt := 184) (by omega) (by omega) (by omega) (by omega) dX10_canForce_53 rfl rfl (fun hc1 => ?_) (fun hc1 => ?_)
  · refine J_iload_n (pc1 := 185) rfl (i := 1) rfl dX10_canForce_184 rfl ?_
    refine J_iload (pc1 := 187) rfl dX10_canForce_185 rfl ?_
    refine J_icmp_ne (pc1 := 190) (tgt := 195) (by omega) (by omega) (by omega) (by omega) dX10_canForce_187 rfl rfl (fun hc2 => ?_) (fun hc2 => ?_)
    · refine J_iload (pc1 := 197) rfl dX10_canForce_195 rfl ?_
      exact J_iret rfl (nar_b (by assumption)) dX10_canForce_197 (Nat.le_refl _) (Nat.le_refl _) (by first | (rw [if_pos (by assumption)] at hK; exact hK) | (rw [if_neg (by assumption)] at hK; exact hK))
    · refine J_iload (pc1 := 192) rfl dX10_canForce_190 rfl ?_
      refine J_goto (tgt := 197) dX10_canForce_192 rfl ?_
      exact J_iret rfl (nar_b (by assumption)) dX10_canForce_197 (Nat.le_refl _) (Nat.le_refl _) (by first | (rw [if_pos (by assumption)] at hK; exact hK) | (rw [if_neg (by assumption)] at hK; exact hK))
  · exact absurd hc1 (by omega)
/-- what the reference asks of a bid and an answer -/
def QW (ti : Int → Int) (tn ps p h one ot fi r b a : Int) : Prop := ti (bhF tn ps p h one ot fi b a) < r
theorem cf_il {S : pS} {B : Nat → Nat} {f hs sl sv ti tx to : Int → Int} {n ik kr ks L sp nu rd : Int} (W : MW S B f hs sl sv ti tx to n ik kr ks L sp nu rd) {K : Option Value → pS → Prop} {p h one ot fi r : Int} (h1 : 0 ≤ f 1 ∧ f 1 ≤ 2) (h2 : f 2 = 0 ∨ f 2 = 1) (h3 : f 3 = 0 ∨ f 3 = 1) (hp : p = 0 ∨ p = 1) (hf : fi = 0 ∨ fi = 1) (hr : 0 ≤ r ∧ r ≤ 9) (ho : -2 ≤ one ∧ one ≤ 24) (ht : -2 ≤ ot ∧ ot ≤ 24) {mb ma : Int} {bid : Int} (hmb : 0 ≤ mb ∧ mb ≤ 100) (hma : 0 ≤ ma ∧ ma ≤ 100) (hbid : 0 ≤ bid ∧ bid ≤ 200) {x9 x10 : Int} (q9 : x9 = 0 ∨ x9 = 1) (q10 : x10 = 0 ∨ x10 = 1) (hz : ∀ a, 0 ≤ a → a ≤ ma → 0 ≤ bhF (f 3) (f 2) p h one ot fi bid a ∧ bhF (f 3) (f 2) p h one ot fi bid a < 20412) (hv : ∀ x, 0 ≤ x → x < 20412 → 0 ≤ ti x ∧ ti x ≤ 99)
    (k : Jd yX10_canForce cX10_canForce 16 (Option.some FieldType.boolean) 2 0 0 K 0 0 S 49 [some (.ref (B 0)), some (.int (iI p)), some (.int (iI h)), some (.int (iI one)), some (.int (iI ot)), some (.int (iI fi)), some (.int (iI r)), some (.int (iI mb)), some (.int (iI ma)), some (.int (iI (orI x9 (bC (∀ a, 0 ≤ a → a ≤ ma → QW ti (f 3) (f 2) p h one ot fi r bid a))))), some (.int (iI (anI x10 (bC (∃ a, (0 ≤ a ∧ a ≤ ma) ∧ QW ti (f 3) (f 2) p h one ot fi r bid a))))), some (.int (iI (bid + 1))), none, none, none, none] []) : ∀ (m : Nat) {j : Int}, 0 ≤ j → j + m = ma + 1 → Jd yX10_canForce cX10_canForce 16 (Option.some FieldType.boolean) 2 0 0 K 0 0 S 65 [some (.ref (B 0)), some (.int (iI p)), some (.int (iI h)), some (.int (iI one)), some (.int (iI ot)), some (.int (iI fi)), some (.int (iI r)), some (.int (iI mb)), some (.int (iI ma)), some (.int (iI x9)), some (.int (iI x10)), some (.int (iI bid)), some (.int (iI (bC (∃ a, (0 ≤ a ∧ a < j) ∧ QW ti (f 3) (f 2) p h one ot fi r bid a)))), some (.int (iI (bC (∀ a, 0 ≤ a → a < j → QW ti (f 3) (f 2) p h one ot fi r bid a)))), some (.int (iI j)), none] [] := by
  intro m
  induction m with
  | zero =>
    intro j h0 hj
    have e : j = ma + 1 := by omega
    subst e
    refine cf_j W h1 h2 h3 hp hf hr ho ht q9 q10 (bC_01 _) (bC_01 _) hmb hma hbid (by omega) (by omega) ?_
    have e1 : (∃ a, (0 ≤ a ∧ a < ma + 1) ∧ QW ti (f 3) (f 2) p h one ot fi r bid a) ↔ ∃ a, (0 ≤ a ∧ a ≤ ma) ∧ QW ti (f 3) (f 2) p h one ot fi r bid a := ⟨fun ⟨a, z, w⟩ => ⟨a, by omega, w⟩, fun ⟨a, z, w⟩ => ⟨a, by omega, w⟩⟩
    have e2 : (∀ a, 0 ≤ a → a < ma + 1 → QW ti (f 3) (f 2) p h one ot fi r bid a) ↔ ∀ a, 0 ≤ a → a ≤ ma → QW ti (f 3) (f 2) p h one ot fi r bid a := ⟨fun z a a0 a1 => z a a0 (by omega), fun z a a0 a1 => z a a0 (by omega)⟩
    rw [bC_c e1, bC_c e2]
    exact k
  | succ m ih =>
    intro j h0 hj
    have hzz := hz j h0 (by omega)
    refine cf_i W h1 h2 h3 hp hf hr ho ht q9 q10 (bC_01 _) (bC_01 _) hmb hma hbid (by omega) hzz (hv _ hzz.1 hzz.2) (by omega) ?_
    rw [isI_b, orI_b, anI_b]
    have e1 : ((∃ a, (0 ≤ a ∧ a < j) ∧ QW ti (f 3) (f 2) p h one ot fi r bid a) ∨ ti (bhF (f 3) (f 2) p h one ot fi bid j) < r) ↔ ∃ a, (0 ≤ a ∧ a < j + 1) ∧ QW ti (f 3) (f 2) p h one ot fi r bid a := ⟨fun z => z.elim (fun ⟨a, z, w⟩ => ⟨a, by omega, w⟩) (fun z => ⟨j, by omega, z⟩), fun ⟨a, z, w⟩ => (Classical.em (a = j)).elim (fun q => Or.inr (q ▸ w)) (fun q => Or.inl ⟨a, by omega, w⟩)⟩
    have e2 : ((∀ a, 0 ≤ a → a < j → QW ti (f 3) (f 2) p h one ot fi r bid a) ∧ ti (bhF (f 3) (f 2) p h one ot fi bid j) < r) ↔ ∀ a, 0 ≤ a → a < j + 1 → QW ti (f 3) (f 2) p h one ot fi r bid a := ⟨fun z a a0 a1 => (Classical.em (a = j)).elim (fun q => q ▸ z.2) (fun q => z.1 a a0 (by omega)), fun z => ⟨fun a a0 a1 => z a a0 (by omega), z j h0 (by omega)⟩⟩
    rw [bC_c e1, bC_c e2]
    exact ih (by omega) (by omega)
theorem cf_ol {S : pS} {B : Nat → Nat} {f hs sl sv ti tx to : Int → Int} {n ik kr ks L sp nu rd : Int} (W : MW S B f hs sl sv ti tx to n ik kr ks L sp nu rd) {K : Option Value → pS → Prop} {p h one ot fi r : Int} (h1 : 0 ≤ f 1 ∧ f 1 ≤ 2) (h2 : f 2 = 0 ∨ f 2 = 1) (h3 : f 3 = 0 ∨ f 3 = 1) (hp : p = 0 ∨ p = 1) (hf : fi = 0 ∨ fi = 1) (hr : 0 ≤ r ∧ r ≤ 9) (ho : -2 ≤ one ∧ one ≤ 24) (ht : -2 ≤ ot ∧ ot ≤ 24) {mb ma : Int} (hmb : 0 ≤ mb ∧ mb ≤ 100) (hma : 0 ≤ ma ∧ ma ≤ 100) (hz : ∀ b a, 0 ≤ b → b ≤ mb → 0 ≤ a → a ≤ ma → 0 ≤ bhF (f 3) (f 2) p h one ot fi b a ∧ bhF (f 3) (f 2) p h one ot fi b a < 20412) (hv : ∀ x, 0 ≤ x → x < 20412 → 0 ≤ ti x ∧ ti x ≤ 99)
    (hK : K (some (.int (iI (if p = fi then (bC (∃ b, (0 ≤ b ∧ b ≤ mb) ∧ ∀ a, 0 ≤ a → a ≤ ma → QW ti (f 3) (f 2) p h one ot fi r b a)) else (bC (∀ b, 0 ≤ b → b ≤ mb → ∃ a, (0 ≤ a ∧ a ≤ ma) ∧ QW ti (f 3) (f 2) p h one ot fi r b a)))))) S) : ∀ (m : Nat) {bid : Int}, 0 ≤ bid → bid + m = mb + 1 → Jd yX10_canForce cX10_canForce 16 (Option.some FieldType.boolean) 2 0 0 K 0 0 S 49 [some (.ref (B 0)), some (.int (iI p)), some (.int (iI h)), some (.int (iI one)), some (.int (iI ot)), some (.int (iI fi)), some (.int (iI r)), some (.int (iI mb)), some (.int (iI ma)), some (.int (iI (bC (∃ b, (0 ≤ b ∧ b < bid) ∧ ∀ a, 0 ≤ a → a ≤ ma → QW ti (f 3) (f 2) p h one ot fi r b a)))), some (.int (iI (bC (∀ b, 0 ≤ b → b < bid → ∃ a, (0 ≤ a ∧ a ≤ ma) ∧ QW ti (f 3) (f 2) p h one ot fi r b a)))), some (.int (iI bid)), none, none, none, none] [] := by
  intro m
  induction m with
  | zero =>
    intro bid h0 hj
    have e : bid = mb + 1 := by omega
    subst e
    refine cf_x W h1 h2 h3 hp hf hr ho ht (bC_01 _) (bC_01 _) hmb hma (by omega) (by omega) ?_
    have e1 : (∃ b, (0 ≤ b ∧ b < mb + 1) ∧ ∀ a, 0 ≤ a → a ≤ ma → QW ti (f 3) (f 2) p h one ot fi r b a) ↔ ∃ b, (0 ≤ b ∧ b ≤ mb) ∧ ∀ a, 0 ≤ a → a ≤ ma → QW ti (f 3) (f 2) p h one ot fi r b a := ⟨fun ⟨a, z, w⟩ => ⟨a, by omega, w⟩, fun ⟨a, z, w⟩ => ⟨a, by omega, w⟩⟩
    have e2 : (∀ b, 0 ≤ b → b < mb + 1 → ∃ a, (0 ≤ a ∧ a ≤ ma) ∧ QW ti (f 3) (f 2) p h one ot fi r b a) ↔ ∀ b, 0 ≤ b → b ≤ mb → ∃ a, (0 ≤ a ∧ a ≤ ma) ∧ QW ti (f 3) (f 2) p h one ot fi r b a := ⟨fun z a a0 a1 => z a a0 (by omega), fun z a a0 a1 => z a a0 (by omega)⟩
    rw [bC_c e1, bC_c e2]
    exact hK
  | succ m ih =>
    intro bid h0 hj
    refine cf_o W h1 h2 h3 hp hf hr ho ht (bC_01 _) (bC_01 _) hmb hma (by omega) (by omega) ?_
    have g1 : (bC (∃ a, (0 ≤ a ∧ a < (0 : Int)) ∧ QW ti (f 3) (f 2) p h one ot fi r bid a)) = 0 := bC_f (fun ⟨a, z, _⟩ => by omega)
    have g2 : (bC (∀ a, 0 ≤ a → a < (0 : Int) → QW ti (f 3) (f 2) p h one ot fi r bid a)) = 1 := bC_t (fun a z z2 => by omega)
    have I := cf_il W (K := K) h1 h2 h3 hp hf hr ho ht hmb hma (bid := bid) (by omega) (x9 := (bC (∃ b, (0 ≤ b ∧ b < bid) ∧ ∀ a, 0 ≤ a → a ≤ ma → QW ti (f 3) (f 2) p h one ot fi r b a))) (x10 := (bC (∀ b, 0 ≤ b → b < bid → ∃ a, (0 ≤ a ∧ a ≤ ma) ∧ QW ti (f 3) (f 2) p h one ot fi r b a))) (bC_01 _) (bC_01 _) (fun a a0 a1 => hz bid a h0 (by omega) a0 a1) hv ?_ (ma + 1).toNat (j := 0) (by decide) (by omega)
    · rw [g1, g2] at I
      exact I
    · rw [orI_b, anI_b]
      have e1 : ((∃ b, (0 ≤ b ∧ b < bid) ∧ ∀ a, 0 ≤ a → a ≤ ma → QW ti (f 3) (f 2) p h one ot fi r b a) ∨ ∀ a, 0 ≤ a → a ≤ ma → QW ti (f 3) (f 2) p h one ot fi r bid a) ↔ ∃ b, (0 ≤ b ∧ b < bid + 1) ∧ ∀ a, 0 ≤ a → a ≤ ma → QW ti (f 3) (f 2) p h one ot fi r b a := ⟨fun z => z.elim (fun ⟨a, z, w⟩ => ⟨a, by omega, w⟩) (fun z => ⟨bid, by omega, z⟩), fun ⟨a, z, w⟩ => (Classical.em (a = bid)).elim (fun q => Or.inr (q ▸ w)) (fun q => Or.inl ⟨a, by omega, w⟩)⟩
      have e2 : ((∀ b, 0 ≤ b → b < bid → ∃ a, (0 ≤ a ∧ a ≤ ma) ∧ QW ti (f 3) (f 2) p h one ot fi r b a) ∧ ∃ a, (0 ≤ a ∧ a ≤ ma) ∧ QW ti (f 3) (f 2) p h one ot fi r bid a) ↔ ∀ b, 0 ≤ b → b < bid + 1 → ∃ a, (0 ≤ a ∧ a ≤ ma) ∧ QW ti (f 3) (f 2) p h one ot fi r b a := ⟨fun z a a0 a1 => (Classical.em (a = bid)).elim (fun q => q ▸ z.2) (fun q => z.1 a a0 (by omega)), fun z => ⟨fun a a0 a1 => z a a0 (by omega), z bid h0 (by omega)⟩⟩
      rw [bC_c e1, bC_c e2]
      exact ih (by omega) (by omega)
theorem c_X10_canForce {S : pS} {B : Nat → Nat} {f hs sl sv ti tx to : Int → Int} {n ik kr ks L sp nu rd : Int} (W : MW S B f hs sl sv ti tx to n ik kr ks L sp nu rd) {ks p h one ot fi : Int} {k : Nat} (R : okR (f 0) (f 1) (f 2) (f 3) ks) (v : vC (f 0) (f 1) (f 2) ks p h one ot fi) (hh : -f 0 < h ∧ h < f 0) (hk : k ≤ 8) (hT : tK (f 0) (f 1) (f 2) (f 3) ks k ti) (hv : ∀ x, 0 ≤ x → x < 20412 → 0 ≤ ti x ∧ ti x ≤ 99) : Ct yX10_canForce cX10_canForce 16 (Option.some FieldType.boolean) 2 0 0 [.ref (B 0), .int (iI p), .int (iI h), .int (iI one), .int (iI ot), .int (iI fi), .int (iI ((k : Int) + 1))] S (kI (bC (FC (f 0) (f 1) (f 2) (f 3) (k + 1) p h one ot fi)) S) := by
  obtain ⟨w1, w2, w3⟩ := vC_w R v
  have hmb : 0 ≤ cdO (f 1) fi one ot ∧ cdO (f 1) fi one ot ≤ 100 := by
    have r2 := R.2.1
    have v4 := v.2.2.2.1
    have v5 := v.2.2.2.2.1
    unfold cdO
    split <;> omega
  have hma : 0 ≤ cdO (f 1) fi ot one ∧ cdO (f 1) fi ot one ≤ 100 := by
    have r2 := R.2.1
    have v4 := v.2.2.2.1
    have v5 := v.2.2.2.2.1
    unfold cdO
    split <;> omega
  have hq : ∀ b a, 0 ≤ b → b ≤ cdO (f 1) fi one ot → 0 ≤ a → a ≤ cdO (f 1) fi ot one → (0 ≤ bhF (f 3) (f 2) p h one ot fi b a ∧ bhF (f 3) (f 2) p h one ot fi b a < 20412) ∧ (QW ti (f 3) (f 2) p h one ot fi ((k : Int) + 1) b a ↔ WN (f 0) (f 1) (f 2) (f 3) k p h one ot fi b a) := fun b a b0 b1 a0 a1 => by
    obtain ⟨h', one', ot', e, v', c⟩ := bh_c R v hh b0 b1 a0 a1
    unfold QW
    rw [e]
    exact ⟨vC_r R v', (hT _ _ _ _ _ v').trans (c k)⟩
  refine Ct.ofJ (by decide +kernel) (Nat.le_of_ble_eq_true rfl) ?_
  refine J_L (L1 := [some (.ref (B 0)), some (.int (iI p)), some (.int (iI h)), some (.int (iI one)), some (.int (iI ot)), some (.int (iI fi)), some (.int (iI ((k : Int) + 1))), none, none, none, none, none, none, none, none, none]) rfl ?_
  refine cf_0 W R.2.1 R.2.2.1 R.2.2.2.1 v.1 v.2.1 (r := (k : Int) + 1) (by omega) w2 w3 ?_
  have I := cf_ol W (K := kI (bC (FC (f 0) (f 1) (f 2) (f 3) (k + 1) p h one ot fi)) S) R.2.1 R.2.2.1 R.2.2.2.1 v.1 v.2.1 (r := (k : Int) + 1) (by omega) w2 w3 hmb hma (fun b a b0 b1 a0 a1 => (hq b a b0 b1 a0 a1).1) hv ?_ (cdO (f 1) fi one ot + 1).toNat (bid := 0) (by decide) (by omega)
  · have g1 : (bC (∃ b, (0 ≤ b ∧ b < (0 : Int)) ∧ ∀ a, 0 ≤ a → a ≤ cdO (f 1) fi ot one → QW ti (f 3) (f 2) p h one ot fi ((k : Int) + 1) b a)) = 0 := bC_f (fun ⟨a, z, _⟩ => by omega)
    have g2 : (bC (∀ b, 0 ≤ b → b < (0 : Int) → ∃ a, (0 ≤ a ∧ a ≤ cdO (f 1) fi ot one) ∧ QW ti (f 3) (f 2) p h one ot fi ((k : Int) + 1) b a)) = 1 := bC_t (fun a z z2 => by omega)
    rw [g1, g2] at I
    exact I
  · refine kI_mk ?_
    by_cases e : p = fi
    · rw [if_pos e]
      refine bC_c (Iff.trans ?_ (FC_s R v hh).symm)
      rw [if_pos e]
      exact ⟨fun ⟨b, b0, z⟩ => ⟨b, b0, fun a a0 a1 => (hq b a b0.1 b0.2 a0 a1).2.mp (z a a0 a1)⟩, fun ⟨b, b0, z⟩ => ⟨b, b0, fun a a0 a1 => (hq b a b0.1 b0.2 a0 a1).2.mpr (z a a0 a1)⟩⟩
    · rw [if_neg e]
      refine bC_c (Iff.trans ?_ (FC_s R v hh).symm)
      rw [if_neg e]
      exact ⟨fun z b b0 b1 => (z b b0 b1).elim fun a w => ⟨a, w.1, (hq b a b0 b1 w.1.1 w.1.2).2.mp w.2⟩, fun z b b0 b1 => (z b b0 b1).elim fun a w => ⟨a, w.1, (hq b a b0 b1 w.1.1 w.1.2).2.mpr w.2⟩⟩
