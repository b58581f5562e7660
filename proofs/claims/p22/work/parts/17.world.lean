/-! 17.world: the whole object -/
def XW (X : Nat → Prop) (S : pS) (A : Nat → Nat) (G Z O : Nat → Nat) (F : Nat → Int → Int) (mm n : Nat) (tb : Int → Option Nat) (tx : Int → Int) (L : Nat) (b0 b1 : Int) : Prop :=
  S (A 0) = some (oO 9 [.ref (G 0), .ref (A 1), .ref (A 3), .ref (A 4), .ref (A 5), .ref (A 7), .ref (A 9), .ref (A 10)]) ∧ HisOK S (A 1) (A 2) n mm G ∧ FAM S (3 + mm) G Z O F ∧ S (A 3) = some (oO 7 [.ref (G 1), .int (iI b0)]) ∧ S (A 4) = some (oO 7 [.ref (G 2), .int (iI b1)]) ∧ A 3 ≠ A 4 ∧ PadOK S (A 5) (A 6) tx L ∧ MemOK X S (A 7) (A 8) tb ∧ S (A 9) = some (oO 0 [.ref (G 0)]) ∧ S (A 10) = some (oO 1 [.ref (G 0)])
/-- the object holds this state; what it made, and where, is left open -/
def XS (X : Nat → Prop) (S : pS) (A : Nat → Nat) (f f1 f2 : Int → Int) (b0 b1 : Int) (n : Nat) (H : Nat → Int → Int) (tx : Int → Int) (L : Nat) : Prop :=
  ∃ (G Z O : Nat → Nat) (F : Nat → Int → Int) (mm : Nat) (tb : Int → Option Nat), XW X S A G Z O F mm n tb tx L b0 b1 ∧ F 0 = f ∧ F 1 = f1 ∧ F 2 = f2 ∧ ∀ i, i < n → F (3 + i) = H i
/-- what is not the object's stays -/
def frX (S T : pS) (pa : Nat) : Prop := (∀ a fs, S a = some (oO 10 fs) → T a = S a) ∧ ∀ a n f, S a = some (oI n f) → a ≠ pa → T a = S a
theorem frX.rf {S : pS} {pa : Nat} : frX S S pa := ⟨fun _ _ _ => rfl, fun _ _ _ _ _ => rfl⟩
theorem frX.tr {S T U : pS} {pa : Nat} (h : frX S T pa) (k : frX T U pa) : frX S U pa :=
  ⟨fun a fs ha => (k.1 a fs ((h.1 a fs ha).trans ha)).trans (h.1 a fs ha), fun a n f ha hn => (k.2 a n f ((h.2 a n f ha hn).trans ha) hn).trans (h.2 a n f ha hn)⟩
theorem nn_S {S : pS} {a : Nat} {e : pE} (h : S a = some e) : S a ≠ none := fun z => by rw [h] at z; cases z
theorem XW_ug {X : Nat → Prop} {S T : pS} {A : Nat → Nat} {G Z O : Nat → Nat} {F : Nat → Int → Int} {mm n : Nat} {tb : Int → Option Nat} {tx : Int → Int} {L : Nat} {b0 b1 : Int} (h : XW X S A G Z O F mm n tb tx L b0 b1) {f : Int → Int} (hU : UG S (G 0) (Z 0) (O 0) f T) : XW X T A G Z O (upN F 0 f) mm n tb tx L b0 b1 ∧ frX S T (A 6) := by
  obtain ⟨x0, ⟨h1, ⟨st, h2, h3⟩, h4⟩, x2, x3, x4, x5, ⟨p1, p2, p3⟩, ⟨m1, m2, m3⟩, x8, x9⟩ := h
  obtain ⟨g1, g2, g3, g4⟩ := x2.1 0 (by omega)
  have ko : ∀ {a ci : Nat} {fs : List Value}, S a = some (oO ci fs) → ci ≠ 2 → ci ≠ 6 → T a = S a := fun ha c2 c6 => hU.2 _ (ne_ci ha g1 c2) (ne_ci ha g2 c6) (ne_ci ha g3 c6)
  have ki : ∀ {a k : Nat} {f : Nat → Int32}, S a = some (oI k f) → T a = S a := fun ha => hU.2 _ (ne_IO ha g1) (ne_IO ha g2) (ne_IO ha g3)
  have kq : ∀ {a j k : Nat} {f : Nat → Option Nat}, S a = some (oQ j k f) → T a = S a := fun ha => hU.2 _ (ne_QO ha g1) (ne_QO ha g2) (ne_QO ha g3)
  refine ⟨⟨(ko x0 (by decide) (by decide)).trans x0, ⟨(ko h1 (by decide) (by decide)).trans h1, ⟨st, (kq h2).trans h2, h3⟩, h4⟩, FAM_set x2 (by omega) hU, (ko x3 (by decide) (by decide)).trans x3, (ko x4 (by decide) (by decide)).trans x4, x5, ⟨(ko p1 (by decide) (by decide)).trans p1, (ki p2).trans p2, p3⟩, ⟨(ko m1 (by decide) (by decide)).trans m1, (kq m2).trans m2, fun E ti ps top t ok ht => ?_⟩, (ko x8 (by decide) (by decide)).trans x8, (ko x9 (by decide) (by decide)).trans x9⟩, fun a fs ha => ko ha (by decide) (by decide), fun a k f ha _ => ki ha⟩
  have hT := m3 E ti ps top t ok ht
  obtain ⟨ow, fo, tm, w, k, tg, ⟨t1, t2, t3, t4, t5⟩, t6⟩ := hT
  exact ⟨ow, fo, tm, w, k, tg, ⟨(ko t1 (by decide) (by decide)).trans t1, (ki t2).trans t2, (ki t3).trans t3, (ki t4).trans t4, t5⟩, t6⟩
theorem XW_keep {X : Nat → Prop} {S T : pS} {A : Nat → Nat} {G Z O : Nat → Nat} {F : Nat → Int → Int} {mm n : Nat} {tb : Int → Option Nat} {tx : Int → Int} {L : Nat} {b0 b1 : Int} (h : XW X S A G Z O F mm n tb tx L b0 b1) (hK : KKS S (A 1) (A 2) n mm G Z O F T) : (∃ (G' Z' O' : Nat → Nat) (F' : Nat → Int → Int) (m' : Nat), XW X T A G' Z' O' F' m' (kpN n) tb tx L b0 b1 ∧ ∀ i, i < 3 + kpN n → F' i = kpF n F i) ∧ frX S T (A 6) := by
  obtain ⟨x0, ⟨h1, ⟨st, h2, h3⟩, h4⟩, x2, x3, x4, x5, ⟨p1, p2, p3⟩, ⟨m1, m2, m3⟩, x8, x9⟩ := h
  obtain ⟨m', G', Z', O', F', k1, k2, k3, k4, k5⟩ := hK
  have ko : ∀ {a ci : Nat} {fs : List Value}, S a = some (oO ci fs) → ci ≠ 2 → ci ≠ 6 → ci ≠ 3 → T a = S a := fun ha c2 c6 c3 => k5 _ (nn_S ha) (ne_ci ha h1 c3) (ne_OQ ha h2) (fun i _ hi => by
    obtain ⟨g1, g2, g3, g4⟩ := x2.1 i hi
    exact ⟨ne_ci ha g1 c2, ne_ci ha g2 c6, ne_ci ha g3 c6⟩)
  have ki : ∀ {a k : Nat} {f : Nat → Int32}, S a = some (oI k f) → T a = S a := fun ha => k5 _ (nn_S ha) (ne_IO ha h1) (ne_IQ ha h2) (fun i _ hi => by
    obtain ⟨g1, g2, g3, g4⟩ := x2.1 i hi
    exact ⟨ne_IO ha g1, ne_IO ha g2, ne_IO ha g3⟩)
  have kq : ∀ {a k : Nat} {f : Nat → Option Nat}, S a = some (oQ 1 k f) → T a = S a := fun ha => k5 _ (nn_S ha) (ne_QO ha h1) (ne_QQ ha h2 (by decide)) (fun i _ hi => by
    obtain ⟨g1, g2, g3, g4⟩ := x2.1 i hi
    exact ⟨ne_QO ha g1, ne_QO ha g2, ne_QO ha g3⟩)
  refine ⟨⟨G', Z', O', F', m', ⟨?_, k1, k2, ?_, ?_, x5, ⟨(ko p1 (by decide) (by decide) (by decide)).trans p1, (ki p2).trans p2, p3⟩, ⟨(ko m1 (by decide) (by decide) (by decide)).trans m1, (kq m2).trans m2, fun E ti ps top t ok ht => ?_⟩, ?_, ?_⟩, k3⟩, fun a fs ha => ko ha (by decide) (by decide) (by decide), fun a k f ha _ => ki ha⟩
  · rw [ko x0 (by decide) (by decide) (by decide), k4 0 (by decide)]; exact x0
  · rw [ko x3 (by decide) (by decide) (by decide), k4 1 (by decide)]; exact x3
  · rw [ko x4 (by decide) (by decide) (by decide), k4 2 (by decide)]; exact x4
  · obtain ⟨ow, fo, tm, w, k, tg, ⟨t1, t2, t3, t4, t5⟩, t6⟩ := m3 E ti ps top t ok ht
    exact ⟨ow, fo, tm, w, k, tg, ⟨(ko t1 (by decide) (by decide) (by decide)).trans t1, (ki t2).trans t2, (ki t3).trans t3, (ki t4).trans t4, t5⟩, t6⟩
  · rw [ko x8 (by decide) (by decide) (by decide), k4 0 (by decide)]; exact x8
  · rw [ko x9 (by decide) (by decide) (by decide), k4 0 (by decide)]; exact x9
theorem XW_mem {X : Nat → Prop} {S T : pS} {A : Nat → Nat} {G Z O : Nat → Nat} {F : Nat → Int → Int} {mm n : Nat} {tb tb' : Int → Option Nat} {tx : Int → Int} {L : Nat} {b0 b1 : Int} (h : XW X S A G Z O F mm n tb tx L b0 b1) (hM : MemOK X T (A 7) (A 8) tb') (hf : ∀ a, S a ≠ none → a ≠ A 8 → T a = S a) : XW X T A G Z O F mm n tb' tx L b0 b1 ∧ frX S T (A 6) := by
  obtain ⟨x0, ⟨h1, ⟨st, h2, h3⟩, h4⟩, x2, x3, x4, x5, ⟨p1, p2, p3⟩, ⟨m1, m2, m3⟩, x8, x9⟩ := h
  have ko : ∀ {a ci : Nat} {fs : List Value}, S a = some (oO ci fs) → T a = S a := fun ha => hf _ (nn_S ha) (ne_OQ ha m2)
  have ki : ∀ {a k : Nat} {f : Nat → Int32}, S a = some (oI k f) → T a = S a := fun ha => hf _ (nn_S ha) (ne_IQ ha m2)
  have kq : ∀ {a k : Nat} {f : Nat → Option Nat}, S a = some (oQ 0 k f) → T a = S a := fun ha => hf _ (nn_S ha) (ne_QQ ha m2 (by decide))
  exact ⟨⟨(ko x0).trans x0, ⟨(ko h1).trans h1, ⟨st, (kq h2).trans h2, h3⟩, h4⟩, FAM_fr x2 (fun a ci fs ha _ => ko ha), (ko x3).trans x3, (ko x4).trans x4, x5, ⟨(ko p1).trans p1, (ki p2).trans p2, p3⟩, hM, (ko x8).trans x8, (ko x9).trans x9⟩, fun a fs ha => ko ha, fun a k f ha _ => ki ha⟩
theorem XW_pad {X : Nat → Prop} {S T : pS} {A : Nat → Nat} {G Z O : Nat → Nat} {F : Nat → Int → Int} {mm n : Nat} {tb : Int → Option Nat} {tx tx' : Int → Int} {L L' : Nat} {b0 b1 : Int} (h : XW X S A G Z O F mm n tb tx L b0 b1) (hX : X (A 6)) (hP : PadOK T (A 5) (A 6) tx' L') (hf : ∀ a, a ≠ A 5 → a ≠ A 6 → T a = S a) : XW X T A G Z O F mm n tb tx' L' b0 b1 ∧ frX S T (A 6) := by
  obtain ⟨x0, ⟨h1, ⟨st, h2, h3⟩, h4⟩, x2, x3, x4, x5, ⟨p1, p2, p3⟩, ⟨m1, m2, m3⟩, x8, x9⟩ := h
  have ko : ∀ {a ci : Nat} {fs : List Value}, S a = some (oO ci fs) → ci ≠ 5 → T a = S a := fun ha c5 => hf _ (ne_ci ha p1 c5) (ne_OI ha p2)
  have kq : ∀ {a j k : Nat} {f : Nat → Option Nat}, S a = some (oQ j k f) → T a = S a := fun ha => hf _ (ne_QO ha p1) (ne_QI ha p2)
  have ki : ∀ {a k : Nat} {f : Nat → Int32}, S a = some (oI k f) → a ≠ A 6 → T a = S a := fun ha hn => hf _ (ne_IO ha p1) hn
  refine ⟨⟨(ko x0 (by decide)).trans x0, ⟨(ko h1 (by decide)).trans h1, ⟨st, (kq h2).trans h2, h3⟩, h4⟩, FAM_fr x2 (fun a ci fs ha hc => ko ha (by omega)), (ko x3 (by decide)).trans x3, (ko x4 (by decide)).trans x4, x5, hP, ⟨(ko m1 (by decide)).trans m1, (kq m2).trans m2, fun E ti ps top t ok ht => ?_⟩, (ko x8 (by decide)).trans x8, (ko x9 (by decide)).trans x9⟩, fun a fs ha => ko ha (by decide), fun a k f ha hn => ki ha hn⟩
  obtain ⟨ow, fo, tm, w, k, tg, ⟨t1, t2, t3, t4, t5⟩, t6, y1, y2, y3⟩ := m3 E ti ps top t ok ht
  exact ⟨ow, fo, tm, w, k, tg, ⟨(ko t1 (by decide)).trans t1, (ki t2 (fun z => y1 (by rw [z]; exact hX))).trans t2, (ki t3 (fun z => y2 (by rw [z]; exact hX))).trans t3, (ki t4 (fun z => y3 (by rw [z]; exact hX))).trans t4, t5⟩, t6, y1, y2, y3⟩
/-- what holds of every state that can come about -/
def okX (f f1 f2 : Int → Int) (b0 b1 : Int) (n : Nat) (H : Nat → Int → Int) : Prop := okF f ∧ (b0 = 0 ∨ b0 = 1) ∧ (b1 = 0 ∨ b1 = 1) ∧ (b0 = 1 → okF f1) ∧ (b1 = 1 → okF f2) ∧ n ≤ 6 ∧ ∀ i, i < n → okF (H i)
def kpH (n : Nat) (f : Int → Int) (H : Nat → Int → Int) : Nat → Int → Int := fun i => if n = 6 then (if i < 5 then H (i + 1) else f) else if i = n then f else H i
theorem XS_keep {X : Nat → Prop} {S T : pS} {A : Nat → Nat} {G Z O : Nat → Nat} {F : Nat → Int → Int} {mm n : Nat} {tb : Int → Option Nat} {tx : Int → Int} {L : Nat} {b0 b1 : Int} {f f1 f2 : Int → Int} {H : Nat → Int → Int} (h : XW X S A G Z O F mm n tb tx L b0 b1) (e0 : F 0 = f) (e1 : F 1 = f1) (e2 : F 2 = f2) (eH : ∀ i, i < n → F (3 + i) = H i) (hK : KKS S (A 1) (A 2) n mm G Z O F T) : XS X T A f f1 f2 b0 b1 (kpN n) (kpH n f H) tx L ∧ frX S T (A 6) := by
  obtain ⟨⟨G', Z', O', F', m', k1, k2⟩, k3⟩ := XW_keep h hK
  have hn := h.2.1.2.2
  have k3' : ∀ i, i < 3 → F' i = F i := fun i hi => by
    rw [k2 i (by omega)]
    unfold kpF
    by_cases h6 : n = 6
    · rw [if_pos h6, if_pos hi]
    · rw [if_neg h6, if_neg (by omega)]
  refine ⟨⟨G', Z', O', F', m', tb, k1, (k3' 0 (by decide)).trans e0, (k3' 1 (by decide)).trans e1, (k3' 2 (by decide)).trans e2, fun i hi => ?_⟩, k3⟩
  rw [k2 (3 + i) (by omega)]
  unfold kpN at hi
  unfold kpF kpH
  by_cases h6 : n = 6
  · rw [if_pos h6] at hi ⊢
    rw [if_pos h6, if_neg (by omega)]
    by_cases h5 : i < 5
    · rw [if_pos (by omega), if_pos h5, ← eH (i + 1) (by omega)]
      rfl
    · rw [if_neg (by omega), if_neg h5, e0]
  · rw [if_neg h6] at hi ⊢
    rw [if_neg h6]
    by_cases hin : i = n
    · rw [if_pos (by omega), if_pos hin, e0]
    · rw [if_neg (by omega), if_neg hin]
      exact eH i (by omega)
theorem okX_keep {f f1 f2 : Int → Int} {b0 b1 : Int} {n : Nat} {H : Nat → Int → Int} (h : okX f f1 f2 b0 b1 n H) : okX f f1 f2 b0 b1 (kpN n) (kpH n f H) := by
  obtain ⟨h1, h2, h3, h4, h5, h6, h7⟩ := h
  refine ⟨h1, h2, h3, h4, h5, by unfold kpN; split <;> omega, fun i hi => ?_⟩
  unfold kpN at hi
  unfold kpH
  split
  · next q =>
    rw [if_pos q] at hi
    split
    · exact h7 _ (by omega)
    · exact h1
  · next q =>
    rw [if_neg q] at hi
    split
    · exact h1
    · exact h7 _ (by omega)
theorem XS_ug {X : Nat → Prop} {S T : pS} {A : Nat → Nat} {G Z O : Nat → Nat} {F : Nat → Int → Int} {mm n : Nat} {tb : Int → Option Nat} {tx : Int → Int} {L : Nat} {b0 b1 : Int} {f f1 f2 : Int → Int} {H : Nat → Int → Int} (h : XW X S A G Z O F mm n tb tx L b0 b1) (e1 : F 1 = f1) (e2 : F 2 = f2) (eH : ∀ i, i < n → F (3 + i) = H i) (hU : UG S (G 0) (Z 0) (O 0) f T) : XS X T A f f1 f2 b0 b1 n H tx L ∧ frX S T (A 6) :=
  ⟨⟨G, Z, O, upN F 0 f, mm, tb, (XW_ug h hU).1, upN_s _ _ _, (upN_n _ _ (by decide)).trans e1, (upN_n _ _ (by decide)).trans e2, fun i hi => (upN_n _ _ (by omega)).trans (eH i hi)⟩, (XW_ug h hU).2⟩
theorem vd_t {f : Int → Int} (ok : okF f) {p top most : Int} (hp : p = 0 ∨ p = 1) (hm : 0 ≤ most ∧ (f 2 = 1 → most ≤ 8)) (ht : top = topF f (most + moF f (1 - p))) : vd (f 0) (f 2) top (twF f p) most (moF f (1 - p)) := by
  have h2 := (moF_b (p := 1 - p) ok).1
  obtain ⟨o0, o1, o2, o3, o4, o5, o7, o9, o10, o12, o13, -⟩ := ok
  refine ⟨?_, ?_, hm.1, h2, fun q => ?_, fun q => ?_⟩
  · unfold twF; split <;> omega
  · unfold twF; split <;> omega
  · rw [ht]
    unfold topF
    rw [if_pos q]
  · rw [ht]
    unfold topF
    rw [if_neg (by omega)]
    have := o13 q
    refine ⟨hm.2 q, ?_⟩
    unfold moF hoF
    split <;> omega
theorem okT_f {f : Int → Int} (ok : okF f) {s : Int} (hs : 0 ≤ s ∧ s ≤ 24) : okT (f 0) (f 3) (f 2) (topF f s) := by
  obtain ⟨o0, o1, o2, o3, -⟩ := ok
  refine ⟨o0, o3, o2, ?_, fun q => if_neg (by omega)⟩
  unfold topF
  split <;> omega
theorem mo_sum {f : Int → Int} (ok : okF f) : 0 ≤ moF f 0 + moF f 1 ∧ moF f 0 + moF f 1 ≤ 16 := by
  obtain ⟨o0, o1, o2, o3, o4, o5, o7, o9, o10, o12, o13, -⟩ := ok
  unfold moF hoF
  rw [if_pos rfl, if_neg (by decide)]
  omega
/-- timesNow: a table of the times of now -/
def KTN (X : Nat → Prop) (S : pS) (A : Nat → Nat) (f f1 f2 : Int → Int) (b0 b1 : Int) (n : Nat) (H : Nat → Int → Int) (tx : Int → Int) (L : Nat) : Option Value → pS → Prop := fun r T => ∃ t, r = some (.ref t) ∧ XS X T A f f1 f2 b0 b1 n H tx L ∧ FullT X T t (f 0) (f 3) (f 2) (topF f (moF f 0 + moF f 1)) ∧ frX S T (A 6)
set_option maxHeartbeats 400000 in
set_option maxRecDepth 20000 in
theorem c_X9_isBetween {S : pS} {v a b : Int} (hv : -2147483648 ≤ v ∧ v < 2147483648) (ha : -2147483648 ≤ a ∧ a < 2147483648) (hb : -2147483648 ≤ b ∧ b < 2147483648) : Ct yX9_isBetween cX9_isBetween 3 (Option.some FieldType.boolean) 0 0 0 [.int (iI v), .int (iI a), .int (iI b)] S (kI (bC (a ≤ v ∧ v ≤ b)) S) := by
  refine Ct.ofJ (by decide +kernel) (Nat.le_of_ble_eq_true rfl) ?_
  refine J_L (L1 := [some (.int (iI v)), some (.int (iI a)), some (.int (iI b))]) rfl ?_
  refine J_iload_n (pc1 := 1) rfl (i := 0) rfl dX9_isBetween_0 rfl ?_
  refine J_iload_n (pc1 := 2) rfl (i := 1) rfl dX9_isBetween_1 rfl ?_
  refine J_icmp_lt (pc1 := 5) (tgt := 14) (by omega) (by omega) (by omega) (by omega) dX9_isBetween_2 rfl rfl (fun hc1 => ?_) (fun hc1 => ?_)
  · refine J_iconst (pc1 := 15) dX9_isBetween_14 rfl ?_
    exact J_iret rfl rfl dX9_isBetween_15 (Nat.le_refl _) (Nat.le_refl _) (kI_mk (by first | exact (bC_t (by omega)).symm | exact (bC_f (by omega)).symm))
  · refine J_iload_n (pc1 := 6) rfl (i := 0) rfl dX9_isBetween_5 rfl ?_
    refine J_iload_n (pc1 := 7) rfl (i := 2) rfl dX9_isBetween_6 rfl ?_
    refine J_icmp_gt (pc1 := 10) (tgt := 14) (by omega) (by omega) (by omega) (by omega) dX9_isBetween_7 rfl rfl (fun hc2 => ?_) (fun hc2 => ?_)
    · refine J_iconst (pc1 := 15) dX9_isBetween_14 rfl ?_
      exact J_iret rfl rfl dX9_isBetween_15 (Nat.le_refl _) (Nat.le_refl _) (kI_mk (by first | exact (bC_t (by omega)).symm | exact (bC_f (by omega)).symm))
    · refine J_iconst (pc1 := 11) dX9_isBetween_10 rfl ?_
      refine J_goto (tgt := 15) dX9_isBetween_11 rfl ?_
      exact J_iret rfl rfl dX9_isBetween_15 (Nat.le_refl _) (Nat.le_refl _) (kI_mk (by first | exact (bC_t (by omega)).symm | exact (bC_f (by omega)).symm))
set_option maxHeartbeats 400000 in
set_option maxRecDepth 20000 in
theorem c_X9_isPlayer {S : pS} {v : Int} (hv : -2147483648 ≤ v ∧ v < 2147483648) : Ct yX9_isPlayer cX9_isPlayer 1 (Option.some FieldType.boolean) 0 0 0 [.int (iI v)] S (kI (bC (v = 0 ∨ v = 1)) S) := by
  refine Ct.ofJ (by decide +kernel) (Nat.le_of_ble_eq_true rfl) ?_
  refine J_L (L1 := [some (.int (iI v))]) rfl ?_
  refine J_iload_n (pc1 := 1) rfl (i := 0) rfl dX9_isPlayer_0 rfl ?_
  refine J_if_eq (pc1 := 4) (tgt := 9) (by omega) (by omega) dX9_isPlayer_1 rfl rfl (fun hc1 => ?_) (fun hc1 => ?_)
  · refine J_iconst (pc1 := 10) dX9_isPlayer_9 rfl ?_
    refine J_goto (tgt := 14) dX9_isPlayer_10 rfl ?_
    exact J_iret rfl rfl dX9_isPlayer_14 (Nat.le_refl _) (Nat.le_refl _) (kI_mk (by first | exact (bC_t (by omega)).symm | exact (bC_f (by omega)).symm))
  · refine J_iload_n (pc1 := 5) rfl (i := 0) rfl dX9_isPlayer_4 rfl ?_
    refine J_iconst (pc1 := 6) dX9_isPlayer_5 rfl ?_
    refine J_icmp_ne (pc1 := 9) (tgt := 13) (by omega) (by omega) (by decide) (by decide) dX9_isPlayer_6 rfl rfl (fun hc2 => ?_) (fun hc2 => ?_)
    · refine J_iconst (pc1 := 14) dX9_isPlayer_13 rfl ?_
      exact J_iret rfl rfl dX9_isPlayer_14 (Nat.le_refl _) (Nat.le_refl _) (kI_mk (by first | exact (bC_t (by omega)).symm | exact (bC_f (by omega)).symm))
    · refine J_iconst (pc1 := 10) dX9_isPlayer_9 rfl ?_
      refine J_goto (tgt := 14) dX9_isPlayer_10 rfl ?_
      exact J_iret rfl rfl dX9_isPlayer_14 (Nat.le_refl _) (Nat.le_refl _) (kI_mk (by first | exact (bC_t (by omega)).symm | exact (bC_f (by omega)).symm))
set_option maxHeartbeats 400000 in
set_option maxRecDepth 20000 in
theorem c_X9_isSlot {S : pS} {v : Int} (hv : -2147483648 ≤ v ∧ v < 2147483648) : Ct yX9_isSlot cX9_isSlot 1 (Option.some FieldType.boolean) 0 0 0 [.int (iI v)] S (kI (bC (v = 0 ∨ v = 1)) S) := by
  refine Ct.ofJ (by decide +kernel) (Nat.le_of_ble_eq_true rfl) ?_
  refine J_L (L1 := [some (.int (iI v))]) rfl ?_
  refine J_iload_n (pc1 := 1) rfl (i := 0) rfl dX9_isSlot_0 rfl ?_
  refine J_if_eq (pc1 := 4) (tgt := 9) (by omega) (by omega) dX9_isSlot_1 rfl rfl (fun hc1 => ?_) (fun hc1 => ?_)
  · refine J_iconst (pc1 := 10) dX9_isSlot_9 rfl ?_
    refine J_goto (tgt := 14) dX9_isSlot_10 rfl ?_
    exact J_iret rfl rfl dX9_isSlot_14 (Nat.le_refl _) (Nat.le_refl _) (kI_mk (by first | exact (bC_t (by omega)).symm | exact (bC_f (by omega)).symm))
  · refine J_iload_n (pc1 := 5) rfl (i := 0) rfl dX9_isSlot_4 rfl ?_
    refine J_iconst (pc1 := 6) dX9_isSlot_5 rfl ?_
    refine J_icmp_ne (pc1 := 9) (tgt := 13) (by omega) (by omega) (by decide) (by decide) dX9_isSlot_6 rfl rfl (fun hc2 => ?_) (fun hc2 => ?_)
    · refine J_iconst (pc1 := 14) dX9_isSlot_13 rfl ?_
      exact J_iret rfl rfl dX9_isSlot_14 (Nat.le_refl _) (Nat.le_refl _) (kI_mk (by first | exact (bC_t (by omega)).symm | exact (bC_f (by omega)).symm))
    · refine J_iconst (pc1 := 10) dX9_isSlot_9 rfl ?_
      refine J_goto (tgt := 14) dX9_isSlot_10 rfl ?_
      exact J_iret rfl rfl dX9_isSlot_14 (Nat.le_refl _) (Nat.le_refl _) (kI_mk (by first | exact (bC_t (by omega)).symm | exact (bC_f (by omega)).symm))
set_option maxHeartbeats 400000 in
set_option maxRecDepth 20000 in
theorem c_X9_isSetting {S : pS} {v : Int} (hv : -2147483648 ≤ v ∧ v < 2147483648) : Ct yX9_isSetting cX9_isSetting 1 (Option.some FieldType.boolean) 1 0 0 [.int (iI v)] S (kI (bC (0 ≤ v ∧ v ≤ 3)) S) := by
  refine Ct.ofJ (by decide +kernel) (Nat.le_of_ble_eq_true rfl) ?_
  refine J_L (L1 := [some (.int (iI v))]) rfl ?_
  refine J_iload_n (pc1 := 1) rfl (i := 0) rfl dX9_isSetting_0 rfl ?_
  refine J_iconst (pc1 := 2) dX9_isSetting_1 rfl ?_
  refine J_iconst (pc1 := 3) dX9_isSetting_2 rfl ?_
  refine J_callSI (pc1 := 6) (As := [.int (iI v), .int (iI 0), .int (iI 3)]) gs_X9_87 yv_X9_isBetween (c_X9_isBetween (v := v) (a := 0) (b := 3) (by omega) (by omega) (by omega)) dX9_isSetting_3 rfl rfl rfl (by omega) (by decide) (by omega) (by omega) (Nat.le_of_ble_eq_true rfl) ?_
  exact J_iret rfl (nar_bC _) dX9_isSetting_6 (Nat.le_refl _) (Nat.le_refl _) (kI_mk rfl)
set_option maxHeartbeats 400000 in
set_option maxRecDepth 20000 in
theorem c_X9_leastSetting {S : pS} {v : Int} (hv : -2147483648 ≤ v ∧ v < 2147483648) : Ct yX9_leastSetting cX9_leastSetting 1 (Option.some FieldType.int) 0 0 0 [.int (iI v)] S (kI ((if v = 0 then 1 else 0)) S) := by
  refine Ct.ofJ (by decide +kernel) (Nat.le_of_ble_eq_true rfl) ?_
  refine J_L (L1 := [some (.int (iI v))]) rfl ?_
  refine J_iload_n (pc1 := 1) rfl (i := 0) rfl dX9_leastSetting_0 rfl ?_
  refine J_if_ne (pc1 := 4) (tgt := 8) (by omega) (by omega) dX9_leastSetting_1 rfl rfl (fun hc1 => ?_) (fun hc1 => ?_)
  · refine J_iconst (pc1 := 9) dX9_leastSetting_8 rfl ?_
    exact J_iret rfl rfl dX9_leastSetting_9 (Nat.le_refl _) (Nat.le_refl _) (kI_mk (by first | rw [if_pos (by omega)] | rw [if_neg (by omega)]))
  · refine J_iconst (pc1 := 5) dX9_leastSetting_4 rfl ?_
    refine J_goto (tgt := 9) dX9_leastSetting_5 rfl ?_
    exact J_iret rfl rfl dX9_leastSetting_9 (Nat.le_refl _) (Nat.le_refl _) (kI_mk (by first | rw [if_pos (by omega)] | rw [if_neg (by omega)]))
theorem c_X9_mostSetting {S : pS} {v : Int} (hv : 0 ≤ v ∧ v ≤ 3) : Ct yX9_mostSetting cX9_mostSetting 1 (Option.some FieldType.int) 0 0 0 [.int (iI v)] S (kI (if v = 0 then 3 else if v = 1 then 2 else 1) S) := by
  refine Ct.ofJ (by decide +kernel) (Nat.le_of_ble_eq_true rfl) ?_
  refine J_L (L1 := [some (.int (iI v))]) rfl ?_
  refine J_iload_n (pc1 := 1) rfl (i := 0) rfl dX9_mostSetting_0 rfl ?_
  rcases (show v = 0 ∨ v = 1 ∨ v = 2 ∨ v = 3 by omega) with rfl | rfl | rfl | rfl
  · refine J_lookup (tgt := 28) (by decide) (by decide) dX9_mostSetting_1 (by decide) rfl rfl ?_
    refine J_iconst (pc1 := 29) dX9_mostSetting_28 rfl ?_
    exact J_iret rfl rfl dX9_mostSetting_29 (Nat.le_refl _) (Nat.le_refl _) (kI_mk rfl)
  · refine J_lookup (tgt := 30) (by decide) (by decide) dX9_mostSetting_1 (by decide) rfl rfl ?_
    refine J_iconst (pc1 := 31) dX9_mostSetting_30 rfl ?_
    exact J_iret rfl rfl dX9_mostSetting_31 (Nat.le_refl _) (Nat.le_refl _) (kI_mk rfl)
  · refine J_lookup (tgt := 32) (by decide) (by decide) dX9_mostSetting_1 (by decide) rfl rfl ?_
    refine J_iconst (pc1 := 33) dX9_mostSetting_32 rfl ?_
    exact J_iret rfl rfl dX9_mostSetting_33 (Nat.le_refl _) (Nat.le_refl _) (kI_mk rfl)
  · refine J_lookup (tgt := 32) (by decide) (by decide) dX9_mostSetting_1 (by decide) rfl rfl ?_
    refine J_iconst (pc1 := 33) dX9_mostSetting_32 rfl ?_
    exact J_iret rfl rfl dX9_mostSetting_33 (Nat.le_refl _) (Nat.le_refl _) (kI_mk rfl)
set_option maxHeartbeats 400000 in
set_option maxRecDepth 20000 in
theorem c_X9_slotOf0 {X : Nat → Prop} {S : pS} {A : Nat → Nat} {f f1 f2 : Int → Int} {b0 b1 : Int} {n : Nat} {H : Nat → Int → Int} {tx : Int → Int} {L : Nat} (hX : XS X S A f f1 f2 b0 b1 n H tx L) (ok : okX f f1 f2 b0 b1 n H) : Ct yX9_slotOf cX9_slotOf 2 (Option.some (FieldType.object "BorrowedHours$Slot")) 0 0 0 [.ref (A 0), .int (iI 0)] S (kF (A 3) S) := by
  obtain ⟨G, Z, O, F, mm, tb, W, e0, e1, e2, eH⟩ := id hX
  have hg : IsG S (G 0) (Z 0) (O 0) f := e0 ▸ W.2.2.1.1 0 (by omega)
  refine Ct.ofJ (by decide +kernel) (Nat.le_of_ble_eq_true rfl) ?_
  refine J_L (L1 := [some (.ref (A 0)), some (.int (iI 0))]) rfl ?_
  refine J_iload_n (pc1 := 1) rfl (i := 1) rfl dX9_slotOf_0 rfl ?_
  refine J_if_ne (pc1 := 4) (tgt := 11) (by decide) (by decide) dX9_slotOf_1 rfl rfl (fun hc1 => ?_) (fun hc1 => ?_)
  · exact absurd hc1 (by decide)
  · refine J_aload_n (pc1 := 5) rfl (i := 0) rfl dX9_slotOf_4 rfl ?_
    refine J_get (pc1 := 8) (j := 2) inUX9 (ci := 9) rfl (by decide) lf_X9_26 dX9_slotOf_5 rfl W.1 rfl ?_
    refine J_goto (tgt := 15) dX9_slotOf_8 rfl ?_
    exact J_aret rfl dX9_slotOf_15 (Nat.le_refl _) (Nat.le_refl _) (⟨rfl, rfl⟩)
set_option maxHeartbeats 400000 in
set_option maxRecDepth 20000 in
theorem c_X9_slotOf1 {X : Nat → Prop} {S : pS} {A : Nat → Nat} {f f1 f2 : Int → Int} {b0 b1 : Int} {n : Nat} {H : Nat → Int → Int} {tx : Int → Int} {L : Nat} (hX : XS X S A f f1 f2 b0 b1 n H tx L) (ok : okX f f1 f2 b0 b1 n H) : Ct yX9_slotOf cX9_slotOf 2 (Option.some (FieldType.object "BorrowedHours$Slot")) 0 0 0 [.ref (A 0), .int (iI 1)] S (kF (A 4) S) := by
  obtain ⟨G, Z, O, F, mm, tb, W, e0, e1, e2, eH⟩ := id hX
  have hg : IsG S (G 0) (Z 0) (O 0) f := e0 ▸ W.2.2.1.1 0 (by omega)
  refine Ct.ofJ (by decide +kernel) (Nat.le_of_ble_eq_true rfl) ?_
  refine J_L (L1 := [some (.ref (A 0)), some (.int (iI 1))]) rfl ?_
  refine J_iload_n (pc1 := 1) rfl (i := 1) rfl dX9_slotOf_0 rfl ?_
  refine J_if_ne (pc1 := 4) (tgt := 11) (by decide) (by decide) dX9_slotOf_1 rfl rfl (fun hc1 => ?_) (fun hc1 => ?_)
  · refine J_aload_n (pc1 := 12) rfl (i := 0) rfl dX9_slotOf_11 rfl ?_
    refine J_get (pc1 := 15) (j := 3) inUX9 (ci := 9) rfl (by decide) lf_X9_30 dX9_slotOf_12 rfl W.1 rfl ?_
    exact J_aret rfl dX9_slotOf_15 (Nat.le_refl _) (Nat.le_refl _) (⟨rfl, rfl⟩)
  · exact absurd hc1 (by decide)
set_option maxHeartbeats 400000 in
set_option maxRecDepth 20000 in
theorem c_X9_timeWith {X : Nat → Prop} {S : pS} {A : Nat → Nat} {f f1 f2 : Int → Int} {b0 b1 : Int} {n : Nat} {H : Nat → Int → Int} {tx : Int → Int} {L : Nat} (hX : XS X S A f f1 f2 b0 b1 n H tx L) (ok : okX f f1 f2 b0 b1 n H) (hRX : ∀ a, X a → S a ≠ none) {p most : Int} (hp : p = 0 ∨ p = 1) (hm : 0 ≤ most ∧ most ≤ 100) (hm2 : f 2 = 1 → most ≤ 8) (hs : most + moF f (1 - p) ≤ 24) : Ct yX9_timeWith cX9_timeWith 5 (Option.some FieldType.int) 7 4 1303 [.ref (A 0), .int (iI p), .int (iI most)] S (kIS (tT (f 0) (f 3) (f 2) (twF f p) most (moF f (1 - p)) (bZ (p = f 5))) (fun T => XS X T A f f1 f2 b0 b1 n H tx L ∧ frX S T (A 6))) := by
  obtain ⟨G, Z, O, F, mm, tb, W, e0, e1, e2, eH⟩ := id hX
  have hg : IsG S (G 0) (Z 0) (O 0) f := e0 ▸ W.2.2.1.1 0 (by omega)
  have q3 := moF_b (p := 1 - p) ok.1
  have o5 := ok.1.2.2.2.2.2.1
  refine Ct.ofJ (by decide +kernel) (Nat.le_of_ble_eq_true rfl) ?_
  refine J_L (L1 := [some (.ref (A 0)), some (.int (iI p)), some (.int (iI most)), none, none]) rfl ?_
  refine J_aload_n (pc1 := 1) rfl (i := 0) rfl dX9_timeWith_0 rfl ?_
  refine J_get (pc1 := 4) (j := 0) inUX9 (ci := 9) rfl (by decide) lf_X9_12 dX9_timeWith_1 rfl W.1 rfl ?_
  refine J_iconst (pc1 := 5) dX9_timeWith_4 rfl ?_
  refine J_iload_n (pc1 := 6) rfl (i := 1) rfl dX9_timeWith_5 rfl ?_
  refine J_isub (pc1 := 7) dX9_timeWith_6 rfl ?_
  refine J_callVI (pc1 := 10) (As := [.int (iI (1 - p))]) gv_X9_151 yv_X2_mostOf rfl (c_X2_mostOf hg (p := 1 - p) (by omega)) dX9_timeWith_7 rfl hg.1 rfl rfl (by omega) (by decide) (by omega) (by omega) (Nat.le_of_ble_eq_true rfl) ?_
  refine J_istore_n (pc1 := 11) (L1 := [some (.ref (A 0)), some (.int (iI p)), some (.int (iI most)), some (.int (iI (moF f (1 - p)))), none]) rfl (i := 3) dX9_timeWith_10 rfl (by decide) rfl rfl ?_
  refine J_aload_n (pc1 := 12) rfl (i := 0) rfl dX9_timeWith_11 rfl ?_
  refine J_get (pc1 := 15) (j := 5) inUX9 (ci := 9) rfl (by decide) lf_X9_43 dX9_timeWith_12 rfl W.1 rfl ?_
  refine J_aload_n (pc1 := 16) rfl (i := 0) rfl dX9_timeWith_15 rfl ?_
  refine J_get (pc1 := 19) (j := 0) inUX9 (ci := 9) rfl (by decide) lf_X9_12 dX9_timeWith_16 rfl W.1 rfl ?_
  refine J_iload_n (pc1 := 20) rfl (i := 2) rfl dX9_timeWith_19 rfl ?_
  refine J_iload_n (pc1 := 21) rfl (i := 3) rfl dX9_timeWith_20 rfl ?_
  refine J_iadd (pc1 := 22) dX9_timeWith_21 rfl ?_
  refine J_callV (pc1 := 25) (As := [.ref (G 0), .int (iI (most + (moF f (1 - p))))]) gv_X9_221 yv_X4_tableFor rfl (c_X4_tableFor hRX W.2.2.2.2.2.2.2.1 hg ok.1 (sum := most + (moF f (1 - p))) (by omega)) dX9_timeWith_22 rfl W.2.2.2.2.2.2.2.1.1 rfl rfl (by omega) (by decide) (by omega) (by omega) (Nat.le_of_ble_eq_true rfl) (fun r9 T9 hT9 => ?_)
  obtain ⟨t9, tb9, rfl, M9, FT9, fr9⟩ := hT9
  obtain ⟨W9, fX9⟩ := XW_mem W M9 fr9
  have hg9 : IsG T9 (G 0) (Z 0) (O 0) f := e0 ▸ W9.2.2.1.1 0 (by omega)
  obtain ⟨ow, fo, tm, w9, n9, tg9, TT, aT, -⟩ := id FT9
  refine J_st (st1 := [.ref t9]) rfl ?_
  refine J_astore (pc1 := 27) (L1 := [some (.ref (A 0)), some (.int (iI p)), some (.int (iI most)), some (.int (iI (moF f (1 - p)))), some (.ref t9)]) dX9_timeWith_25 rfl (by decide) rfl rfl ?_
  refine J_aload (pc1 := 29) rfl dX9_timeWith_27 rfl ?_
  refine J_aload_n (pc1 := 30) rfl (i := 0) rfl dX9_timeWith_29 rfl ?_
  refine J_get (pc1 := 33) (j := 0) inUX9 (ci := 9) rfl (by decide) lf_X9_12 dX9_timeWith_30 rfl W9.1 rfl ?_
  refine J_iload_n (pc1 := 34) rfl (i := 1) rfl dX9_timeWith_33 rfl ?_
  refine J_callVI (pc1 := 37) (As := [.int (iI p)]) gv_X9_225 yv_X2_toWin rfl (c_X2_toWin hg9 (p := p) (by omega)) dX9_timeWith_34 rfl hg9.1 rfl rfl (by omega) (by decide) (by omega) (by omega) (Nat.le_of_ble_eq_true rfl) ?_
  refine J_iload_n (pc1 := 38) rfl (i := 2) rfl dX9_timeWith_37 rfl ?_
  refine J_iload_n (pc1 := 39) rfl (i := 3) rfl dX9_timeWith_38 rfl ?_
  refine J_iload_n (pc1 := 40) rfl (i := 1) rfl dX9_timeWith_39 rfl ?_
  refine J_aload_n (pc1 := 41) rfl (i := 0) rfl dX9_timeWith_40 rfl ?_
  refine J_get (pc1 := 44) (j := 0) inUX9 (ci := 9) rfl (by decide) lf_X9_12 dX9_timeWith_41 rfl W9.1 rfl ?_
  refine J_get (pc1 := 47) (j := 5) inUX2 (ci := 2) rfl (by decide) lf_X9_169 dX9_timeWith_44 rfl hg9.1 rfl ?_
  refine J_icmp_ne (pc1 := 50) (tgt := 54) (by omega) (by omega) (by omega) (by omega) dX9_timeWith_47 rfl rfl (fun hc1 => ?_) (fun hc1 => ?_)
  · refine J_iconst (pc1 := 55) dX9_timeWith_54 rfl ?_
    have hv9 := vd_t ok.1 (p := p) (most := most) hp ⟨hm.1, fun q => hm2 q⟩ rfl
    refine J_callVI (pc1 := 58) (As := [.int (iI (twF f p)), .int (iI most), .int (iI (moF f (1 - p))), .int (iI 0)]) gv_X9_228 yv_X8_timeAt rfl (c_X8_timeAt (b := 0) TT hv9 (by omega)) dX9_timeWith_55 rfl TT.1 rfl rfl (by omega) (by decide) (by omega) (by omega) (Nat.le_of_ble_eq_true rfl) ?_
    rw [show tg9 (ixF (f 2) (topF f (most + moF f (1 - p))) w9 (twF f p) most (moF f (1 - p)) 0) = tT (f 0) (f 3) (f 2) (twF f p) most (moF f (1 - p)) 0 from tB_8 (aT _ _ _ _ hv9 (by omega))]
    exact J_iret rfl rfl dX9_timeWith_58 (by omega) (by omega) (kIS_mk (by first | rw [← bZ_t (show p = f 5 by omega)] | rw [← bZ_f (show ¬ p = f 5 by omega)]) ⟨⟨G, Z, O, F, mm, tb9, W9, e0, e1, e2, eH⟩, fX9⟩)
  · refine J_iconst (pc1 := 51) dX9_timeWith_50 rfl ?_
    refine J_goto (tgt := 55) dX9_timeWith_51 rfl ?_
    have hv9 := vd_t ok.1 (p := p) (most := most) hp ⟨hm.1, fun q => hm2 q⟩ rfl
    refine J_callVI (pc1 := 58) (As := [.int (iI (twF f p)), .int (iI most), .int (iI (moF f (1 - p))), .int (iI 1)]) gv_X9_228 yv_X8_timeAt rfl (c_X8_timeAt (b := 1) TT hv9 (by omega)) dX9_timeWith_55 rfl TT.1 rfl rfl (by omega) (by decide) (by omega) (by omega) (Nat.le_of_ble_eq_true rfl) ?_
    rw [show tg9 (ixF (f 2) (topF f (most + moF f (1 - p))) w9 (twF f p) most (moF f (1 - p)) 1) = tT (f 0) (f 3) (f 2) (twF f p) most (moF f (1 - p)) 1 from tB_8 (aT _ _ _ _ hv9 (by omega))]
    exact J_iret rfl rfl dX9_timeWith_58 (by omega) (by omega) (kIS_mk (by first | rw [← bZ_t (show p = f 5 by omega)] | rw [← bZ_f (show ¬ p = f 5 by omega)]) ⟨⟨G, Z, O, F, mm, tb9, W9, e0, e1, e2, eH⟩, fX9⟩)
set_option maxHeartbeats 400000 in
set_option maxRecDepth 20000 in
theorem c_X9_timesNow {X : Nat → Prop} {S : pS} {A : Nat → Nat} {f f1 f2 : Int → Int} {b0 b1 : Int} {n : Nat} {H : Nat → Int → Int} {tx : Int → Int} {L : Nat} (hX : XS X S A f f1 f2 b0 b1 n H tx L) (ok : okX f f1 f2 b0 b1 n H) (hRX : ∀ a, X a → S a ≠ none) : Ct yX9_timesNow cX9_timesNow 1 (Option.some (FieldType.object "BorrowedHours$Times")) 7 4 1303 [.ref (A 0)] S (KTN X S A f f1 f2 b0 b1 n H tx L) := by
  obtain ⟨G, Z, O, F, mm, tb, W, e0, e1, e2, eH⟩ := id hX
  have hg : IsG S (G 0) (Z 0) (O 0) f := e0 ▸ W.2.2.1.1 0 (by omega)
  have q3 := mo_sum ok.1
  have q4 := moF_b (p := 0) ok.1
  have q5 := moF_b (p := 1) ok.1
  refine Ct.ofJ (by decide +kernel) (Nat.le_of_ble_eq_true rfl) ?_
  refine J_L (L1 := [some (.ref (A 0))]) rfl ?_
  refine J_aload_n (pc1 := 1) rfl (i := 0) rfl dX9_timesNow_0 rfl ?_
  refine J_get (pc1 := 4) (j := 5) inUX9 (ci := 9) rfl (by decide) lf_X9_43 dX9_timesNow_1 rfl W.1 rfl ?_
  refine J_aload_n (pc1 := 5) rfl (i := 0) rfl dX9_timesNow_4 rfl ?_
  refine J_get (pc1 := 8) (j := 0) inUX9 (ci := 9) rfl (by decide) lf_X9_12 dX9_timesNow_5 rfl W.1 rfl ?_
  refine J_aload_n (pc1 := 9) rfl (i := 0) rfl dX9_timesNow_8 rfl ?_
  refine J_get (pc1 := 12) (j := 0) inUX9 (ci := 9) rfl (by decide) lf_X9_12 dX9_timesNow_9 rfl W.1 rfl ?_
  refine J_iconst (pc1 := 13) dX9_timesNow_12 rfl ?_
  refine J_callVI (pc1 := 16) (As := [.int (iI 0)]) gv_X9_151 yv_X2_mostOf rfl (c_X2_mostOf hg (p := 0) (by omega)) dX9_timesNow_13 rfl hg.1 rfl rfl (by omega) (by decide) (by omega) (by omega) (Nat.le_of_ble_eq_true rfl) ?_
  refine J_aload_n (pc1 := 17) rfl (i := 0) rfl dX9_timesNow_16 rfl ?_
  refine J_get (pc1 := 20) (j := 0) inUX9 (ci := 9) rfl (by decide) lf_X9_12 dX9_timesNow_17 rfl W.1 rfl ?_
  refine J_iconst (pc1 := 21) dX9_timesNow_20 rfl ?_
  refine J_callVI (pc1 := 24) (As := [.int (iI 1)]) gv_X9_151 yv_X2_mostOf rfl (c_X2_mostOf hg (p := 1) (by omega)) dX9_timesNow_21 rfl hg.1 rfl rfl (by omega) (by decide) (by omega) (by omega) (Nat.le_of_ble_eq_true rfl) ?_
  refine J_iadd (pc1 := 25) dX9_timesNow_24 rfl ?_
  refine J_callV (pc1 := 28) (As := [.ref (G 0), .int (iI ((moF f 0) + (moF f 1)))]) gv_X9_221 yv_X4_tableFor rfl (c_X4_tableFor hRX W.2.2.2.2.2.2.2.1 hg ok.1 (sum := (moF f 0) + (moF f 1)) (by omega)) dX9_timesNow_25 rfl W.2.2.2.2.2.2.2.1.1 rfl rfl (by omega) (by decide) (by omega) (by omega) (Nat.le_of_ble_eq_true rfl) (fun r9 T9 hT9 => ?_)
  obtain ⟨t9, tb9, rfl, M9, FT9, fr9⟩ := hT9
  obtain ⟨W9, fX9⟩ := XW_mem W M9 fr9
  have hg9 : IsG T9 (G 0) (Z 0) (O 0) f := e0 ▸ W9.2.2.1.1 0 (by omega)
  obtain ⟨ow, fo, tm, w9, n9, tg9, TT, aT, -⟩ := id FT9
  refine J_st (st1 := [.ref t9]) rfl ?_
  exact J_aret rfl dX9_timesNow_28 (by omega) (by omega) (⟨t9, rfl, ⟨G, Z, O, F, mm, tb9, W9, e0, e1, e2, eH⟩, FT9, fX9⟩)
