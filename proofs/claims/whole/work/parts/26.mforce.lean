/-! 26.mforce: whether a player can force a win, in the reference -/
def cdT (E p h : Int) : Int := if p = 0 then E - h else E + h
def cdO (ln p one ot : Int) : Int := (if p = 0 then one else ot) + ln
def cdB (p fi : Int) : Int := if fi = p then 1 else 0
/-- forced in k rounds, in the reference's coordinates -/
def FC (E ln ps tn : Int) (k : Nat) (p h one ot fi : Int) : Prop := fc E tn ps k (cdT E p h) (cdO ln p one ot) (cdO ln p ot one) (cdB p fi)
/-- the states that can come of a sum of hours (PAYS 0), or of hours of at most 6 (PAYS 1) -/
def vC (E ln ps ks p h one ot fi : Int) : Prop := (p = 0 ∨ p = 1) ∧ (fi = 0 ∨ fi = 1) ∧ (-E ≤ h ∧ h ≤ E) ∧ -ln ≤ one ∧ -ln ≤ ot ∧ (ps = 0 → one + ot = ks) ∧ (ps = 1 → one ≤ 6 ∧ ot ≤ 6)
def okR (E ln ps tn ks : Int) : Prop := (1 ≤ E ∧ E ≤ 3) ∧ (0 ≤ ln ∧ ln ≤ 2) ∧ (ps = 0 ∨ ps = 1) ∧ (tn = 0 ∨ tn = 1) ∧ -100 ≤ ks ∧ ks ≤ 20
theorem atF_in {p h one ot fi p' h' one' ot' fi' : Int} (a1 : p = 0 ∨ p = 1) (a2 : -3 ≤ h ∧ h ≤ 3) (a3 : -2 ≤ one ∧ one ≤ 24) (a4 : -2 ≤ ot ∧ ot ≤ 24) (a5 : fi = 0 ∨ fi = 1) (b1 : p' = 0 ∨ p' = 1) (b2 : -3 ≤ h' ∧ h' ≤ 3) (b3 : -2 ≤ one' ∧ one' ≤ 24) (b4 : -2 ≤ ot' ∧ ot' ≤ 24) (b5 : fi' = 0 ∨ fi' = 1) (e : atF p h one ot fi = atF p' h' one' ot' fi') : p = p' ∧ h = h' ∧ one = one' ∧ ot = ot' ∧ fi = fi' := by
  unfold atF at e
  have e1 : fi = fi' := by omega
  have e2 : ot = ot' := by omega
  have e3 : one = one' := by omega
  refine ⟨?_, ?_, e3, e2, e1⟩ <;> omega
theorem atF_r {p h one ot fi : Int} (a1 : p = 0 ∨ p = 1) (a2 : -3 ≤ h ∧ h ≤ 3) (a3 : -2 ≤ one ∧ one ≤ 24) (a4 : -2 ≤ ot ∧ ot ≤ 24) (a5 : fi = 0 ∨ fi = 1) : 0 ≤ atF p h one ot fi ∧ atF p h one ot fi < 20412 := by
  unfold atF
  omega
theorem vC_w {E ln ps tn ks p h one ot fi : Int} (R : okR E ln ps tn ks) (v : vC E ln ps ks p h one ot fi) : (-3 ≤ h ∧ h ≤ 3) ∧ (-2 ≤ one ∧ one ≤ 24) ∧ (-2 ≤ ot ∧ ot ≤ 24) := by
  obtain ⟨r1, r2, r3, r4, r5, r6⟩ := R
  obtain ⟨v1, v2, v3, v4, v5, v6, v7⟩ := v
  rcases r3 with q | q
  · have := v6 q
    omega
  · have := v7 q
    omega
theorem vC_r {E ln ps tn ks p h one ot fi : Int} (R : okR E ln ps tn ks) (v : vC E ln ps ks p h one ot fi) : 0 ≤ atF p h one ot fi ∧ atF p h one ot fi < 20412 := by
  obtain ⟨w1, w2, w3⟩ := vC_w R v
  exact atF_r v.1 w1 w2 w3 v.2.1
theorem fc_cg {E tn ps : Int} {k : Nat} {a b c d a' b' c' d' : Int} (e1 : a = a') (e2 : b = b') (e3 : c = c') (e4 : d = d') : fc E tn ps k a b c d ↔ fc E tn ps k a' b' c' d' := by rw [e1, e2, e3, e4]
/-- the table tells, of each state, whether it is forced in k rounds -/
def tK (E ln ps tn ks : Int) (k : Nat) (g : Int → Int) : Prop := ∀ p h one ot fi, vC E ln ps ks p h one ot fi → (g (atF p h one ot fi) < (k : Int) + 1 ↔ FC E ln ps tn k p h one ot fi)
/-- what a round of a bid and an answer leads to, for the player -/
def WN (E ln ps tn : Int) (k : Nat) (p h one ot fi b a : Int) : Prop :=
  if p = fi then (fst tn b a → tkP ps (fc E tn ps k) (cdT E p h) (cdO ln p one ot) (cdO ln p ot one) b 0) ∧ (¬ fst tn b a → lsP ps (fc E tn ps k) (cdT E p h) (cdO ln p one ot) (cdO ln p ot one) a 0)
  else (fst tn b a → lsP ps (fc E tn ps k) (cdT E p h) (cdO ln p one ot) (cdO ln p ot one) b 1) ∧ (¬ fst tn b a → tkP ps (fc E tn ps k) (cdT E p h) (cdO ln p one ot) (cdO ln p ot one) a 1)
theorem bh_c {E ln ps tn ks : Int} (R : okR E ln ps tn ks) {p h one ot fi b a : Int} (v : vC E ln ps ks p h one ot fi) (hh : -E < h ∧ h < E) (b0 : 0 ≤ b) (b1 : b ≤ cdO ln fi one ot) (a0 : 0 ≤ a) (a1 : a ≤ cdO ln fi ot one) :
    ∃ h' one' ot', bhF tn ps p h one ot fi b a = atF p h' one' ot' (1 - fi) ∧ vC E ln ps ks p h' one' ot' (1 - fi) ∧ ∀ k, (FC E ln ps tn k p h' one' ot' (1 - fi) ↔ WN E ln ps tn k p h one ot fi b a) := by
  obtain ⟨r1, r2, r3, r4, r5, r6⟩ := R
  obtain ⟨v1, v2, v3, v4, v5, v6, v7⟩ := v
  have hga : ∀ x, (ps = 0 → gaE ps x = x) ∧ (ps = 1 → gaE ps x = 0) := fun x => ⟨fun q => gaE0 q, fun q => gaE1 q⟩
  have gb := hga b
  have ga := hga a
  unfold cdO at b1 a1
  by_cases hf : fst tn b a
  · have ht : tkG tn fi b a = fi := if_pos hf
    have hp : pyG tn fi b a = b := by unfold pyG; rw [if_pos ht]
    rcases v2 with rfl | rfl
    · refine ⟨h + 1, one - b, ot + gaE ps b, by unfold bhF; rw [if_pos ht, hp], ?_, fun k => ?_⟩
      · rw [if_pos rfl] at b1 a1
        refine ⟨v1, Or.inr rfl, by omega, by omega, by omega, fun q => by have := gb.1 q; have := v6 q; omega, fun q => by have := gb.2 q; have := v7 q; omega⟩
      · unfold FC WN tkP lsP cdT cdO cdB
        rcases v1 with rfl | rfl
        · simp only [if_true, if_pos (show (0 : Int) = 0 from rfl), if_neg (show ¬ (1 - 0 : Int) = 0 by decide)]
          exact (fc_cg (by omega) (by omega) (by omega) rfl).trans ⟨fun q => ⟨fun _ => q, fun z => absurd hf z⟩, fun q => q.1 hf⟩
        · simp only [if_neg (show ¬ (1 : Int) = 0 by decide), if_pos (show (1 - 0 : Int) = 1 from rfl)]
          exact (fc_cg (by omega) (by omega) (by omega) rfl).trans ⟨fun q => ⟨fun _ => q, fun z => absurd hf z⟩, fun q => q.1 hf⟩
    · refine ⟨h - 1, one + gaE ps b, ot - b, by unfold bhF; rw [if_neg (by omega), hp], ?_, fun k => ?_⟩
      · rw [if_neg (by decide)] at b1 a1
        refine ⟨v1, Or.inl rfl, by omega, by omega, by omega, fun q => by have := gb.1 q; have := v6 q; omega, fun q => by have := gb.2 q; have := v7 q; omega⟩
      · unfold FC WN tkP lsP cdT cdO cdB
        rcases v1 with rfl | rfl
        · simp only [if_true, if_pos (show (0 : Int) = 0 from rfl), if_neg (show ¬ (0 : Int) = 1 by decide), if_pos (show (1 - 1 : Int) = 0 from rfl)]
          exact (fc_cg (by omega) (by omega) (by omega) rfl).trans ⟨fun q => ⟨fun _ => q, fun z => absurd hf z⟩, fun q => q.1 hf⟩
        · simp only [if_neg (show ¬ (1 : Int) = 0 by decide), if_neg (show ¬ (1 - 1 : Int) = 1 by decide), if_pos (show (1 : Int) = 1 from rfl)]
          exact (fc_cg (by omega) (by omega) (by omega) rfl).trans ⟨fun q => ⟨fun _ => q, fun z => absurd hf z⟩, fun q => q.1 hf⟩
  · have ht : tkG tn fi b a = 1 - fi := if_neg hf
    have hp : pyG tn fi b a = a := by unfold pyG; rw [if_neg (by omega)]
    rcases v2 with rfl | rfl
    · refine ⟨h - 1, one + gaE ps a, ot - a, by unfold bhF; rw [if_neg (by omega), hp], ?_, fun k => ?_⟩
      · rw [if_pos rfl] at b1 a1
        refine ⟨v1, Or.inr rfl, by omega, by omega, by omega, fun q => by have := ga.1 q; have := v6 q; omega, fun q => by have := ga.2 q; have := v7 q; omega⟩
      · unfold FC WN tkP lsP cdT cdO cdB
        rcases v1 with rfl | rfl
        · simp only [if_true, if_pos (show (0 : Int) = 0 from rfl), if_neg (show ¬ (1 - 0 : Int) = 0 by decide)]
          exact (fc_cg (by omega) (by omega) (by omega) rfl).trans ⟨fun q => ⟨fun z => absurd z hf, fun _ => q⟩, fun q => q.2 hf⟩
        · simp only [if_neg (show ¬ (1 : Int) = 0 by decide), if_pos (show (1 - 0 : Int) = 1 from rfl)]
          exact (fc_cg (by omega) (by omega) (by omega) rfl).trans ⟨fun q => ⟨fun z => absurd z hf, fun _ => q⟩, fun q => q.2 hf⟩
    · refine ⟨h + 1, one - a, ot + gaE ps a, by unfold bhF; rw [if_pos (by omega), hp], ?_, fun k => ?_⟩
      · rw [if_neg (by decide)] at b1 a1
        refine ⟨v1, Or.inl rfl, by omega, by omega, by omega, fun q => by have := ga.1 q; have := v6 q; omega, fun q => by have := ga.2 q; have := v7 q; omega⟩
      · unfold FC WN tkP lsP cdT cdO cdB
        rcases v1 with rfl | rfl
        · simp only [if_true, if_pos (show (0 : Int) = 0 from rfl), if_neg (show ¬ (0 : Int) = 1 by decide), if_pos (show (1 - 1 : Int) = 0 from rfl)]
          exact (fc_cg (by omega) (by omega) (by omega) rfl).trans ⟨fun q => ⟨fun z => absurd z hf, fun _ => q⟩, fun q => q.2 hf⟩
        · simp only [if_neg (show ¬ (1 : Int) = 0 by decide), if_neg (show ¬ (1 - 1 : Int) = 1 by decide), if_pos (show (1 : Int) = 1 from rfl)]
          exact (fc_cg (by omega) (by omega) (by omega) rfl).trans ⟨fun q => ⟨fun z => absurd z hf, fun _ => q⟩, fun q => q.2 hf⟩
theorem stP_1' {E ti ps tw o f : Int} {P : qP} (h : 0 < tw ∧ tw < 2 * E) : stP E ti ps P tw o f 1 ↔ bidP ti ps P tw o f := by
  unfold stP
  exact ⟨fun q => q.elim (fun z => by omega) (fun z => z.2.1 rfl), fun q => Or.inr ⟨h.2, fun _ => q, fun z => by omega⟩⟩
theorem stP_0' {E ti ps tw o f : Int} {P : qP} (h : 0 < tw ∧ tw < 2 * E) : stP E ti ps P tw o f 0 ↔ ansP ti ps P tw o f := by
  unfold stP
  exact ⟨fun q => q.elim (fun z => by omega) (fun z => z.2.2 rfl), fun q => Or.inr ⟨h.2, fun z => by omega, fun _ => q⟩⟩
/-- one round more, in terms of the rounds that can be played -/
theorem FC_s {E ln ps tn ks : Int} (R : okR E ln ps tn ks) {k : Nat} {p h one ot fi : Int} (v : vC E ln ps ks p h one ot fi) (hh : -E < h ∧ h < E) :
    FC E ln ps tn (k + 1) p h one ot fi ↔ if p = fi then (∃ b, (0 ≤ b ∧ b ≤ cdO ln fi one ot) ∧ ∀ a, 0 ≤ a → a ≤ cdO ln fi ot one → WN E ln ps tn k p h one ot fi b a) else (∀ b, 0 ≤ b → b ≤ cdO ln fi one ot → ∃ a, (0 ≤ a ∧ a ≤ cdO ln fi ot one) ∧ WN E ln ps tn k p h one ot fi b a) := by
  have hT : 0 < cdT E p h ∧ cdT E p h < 2 * E := by unfold cdT; split <;> omega
  unfold FC
  show stP E tn ps (fc E tn ps k) _ _ _ _ ↔ _
  by_cases hp : p = fi
  · rw [if_pos hp]
    have hB : cdB p fi = 1 := if_pos hp.symm
    rw [hB, stP_1' hT]
    unfold bidP WN
    subst hp
    simp only [if_true]
  · rw [if_neg hp]
    have hB : cdB p fi = 0 := if_neg (fun q => hp q.symm)
    rw [hB, stP_0' hT]
    unfold ansP WN
    simp only [if_neg hp]
    have e1 : cdO ln fi one ot = cdO ln p ot one := by
      have v1 := v.1
      have v2 := v.2.1
      unfold cdO
      (repeat' split) <;> omega
    have e2 : cdO ln fi ot one = cdO ln p one ot := by
      have v1 := v.1
      have v2 := v.2.1
      unfold cdO
      (repeat' split) <;> omega
    rw [e1, e2]

