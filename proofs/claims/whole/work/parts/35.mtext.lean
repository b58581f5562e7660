/-! 35.mtext: the reference's text -/
/-- how many digits a bid has that stands at i, none if there is none -/
def bdN (tx : Int → Int) (L i : Nat) : Nat := if i < L ∧ 48 ≤ tx i ∧ tx i ≤ 57 then (if tx i = 49 ∧ i + 1 < L ∧ 48 ≤ tx ((i + 1 : Nat) : Int) ∧ tx ((i + 1 : Nat) : Int) ≤ 52 then 2 else 1) else 0
def bdV (tx : Int → Int) (L i : Nat) : Int := if bdN tx L i = 2 then 10 + tx ((i + 1 : Nat) : Int) - 48 else tx i - 48
theorem bdN_c (tx : Int → Int) (L i : Nat) : (bdN tx L i = 0 ∧ ¬ (i < L ∧ 48 ≤ tx i ∧ tx i ≤ 57)) ∨ (bdN tx L i = 1 ∧ (i < L ∧ 48 ≤ tx i ∧ tx i ≤ 57) ∧ ¬ (tx i = 49 ∧ i + 1 < L ∧ 48 ≤ tx ((i + 1 : Nat) : Int) ∧ tx ((i + 1 : Nat) : Int) ≤ 52)) ∨ (bdN tx L i = 2 ∧ i + 1 < L ∧ tx i = 49 ∧ 48 ≤ tx ((i + 1 : Nat) : Int) ∧ tx ((i + 1 : Nat) : Int) ≤ 52) := by
  unfold bdN
  by_cases h : i < L ∧ 48 ≤ tx i ∧ tx i ≤ 57
  · rw [if_pos h]
    by_cases q : tx i = 49 ∧ i + 1 < L ∧ 48 ≤ tx ((i + 1 : Nat) : Int) ∧ tx ((i + 1 : Nat) : Int) ≤ 52
    · rw [if_pos q]
      exact Or.inr (Or.inr ⟨rfl, q.2.1, q.1, q.2.2⟩)
    · rw [if_neg q]
      exact Or.inr (Or.inl ⟨rfl, h, q⟩)
  · rw [if_neg h]
    exact Or.inl ⟨rfl, h⟩
theorem bd_Bd {tx : Int → Int} {L i : Nat} (h : ¬ bdN tx L i = 0) : Bd tx i (i + bdN tx L i) (bdV tx L i) ∧ i + bdN tx L i ≤ L ∧ i < L ∧ 1 ≤ bdN tx L i ∧ (0 ≤ bdV tx L i ∧ bdV tx L i ≤ 14) := by
  rcases bdN_c tx L i with ⟨e, _⟩ | ⟨e, h1, h2⟩ | ⟨e, h1, h2, h3⟩
  · exact absurd e h
  · have v : bdV tx L i = tx i - 48 := by unfold bdV; rw [if_neg (by omega)]
    have B : Bd tx i (i + 1) (tx i - 48) := Or.inl ⟨rfl, h1.2, rfl⟩
    rw [v, e]
    exact ⟨B, by omega, h1.1, by omega, Bd_b B⟩
  · have v : bdV tx L i = 10 + tx ((i + 1 : Nat) : Int) - 48 := by unfold bdV; rw [if_pos e]
    have B : Bd tx i (i + 2) (10 + tx ((i + 1 : Nat) : Int) - 48) := Or.inr ⟨rfl, h2, h3, rfl⟩
    rw [v, e]
    exact ⟨B, by omega, by omega, by omega, Bd_b B⟩
/-- the end of the first bid of a round, of its second -/
def e1R (tx : Int → Int) (L i : Nat) : Nat := i + bdN tx L i
def eR (tx : Int → Int) (L i : Nat) : Nat := e1R tx L i + 1 + bdN tx L (e1R tx L i + 1)
def okRd (tx : Int → Int) (L i : Nat) : Prop := ¬ bdN tx L i = 0 ∧ (e1R tx L i < L ∧ tx (e1R tx L i) = 58) ∧ ¬ bdN tx L (e1R tx L i + 1) = 0
def fR (tx : Int → Int) (L i : Nat) : Nat := if e1R tx L i < L ∧ tx (e1R tx L i) = 58 ∧ ¬ bdN tx L i = 0 then e1R tx L i + 1 else e1R tx L i
def v1R (tx : Int → Int) (L i : Nat) : Int := bdV tx L i
def v2R (tx : Int → Int) (L i : Nat) : Int := bdV tx L (e1R tx L i + 1)
theorem okRd_b {tx : Int → Int} {L i : Nat} (h : okRd tx L i) : i < L ∧ i + 3 ≤ eR tx L i ∧ eR tx L i ≤ L ∧ (0 ≤ v1R tx L i ∧ v1R tx L i ≤ 14) ∧ (0 ≤ v2R tx L i ∧ v2R tx L i ≤ 14) := by
  obtain ⟨h1, h2, h3⟩ := h
  obtain ⟨a1, a2, a3, a4, a5⟩ := bd_Bd h1
  obtain ⟨b1, b2, b3, b4, b5⟩ := bd_Bd h3
  unfold eR v1R v2R
  unfold e1R at *
  exact ⟨a3, by omega, by omega, a5, b5⟩
noncomputable def pF (tx : Int → Int) (L : Nat) : Nat → Nat → Int
  | 0, i => i
  | m + 1, i => @ite _ (okRd tx L i) (Classical.propDecidable _) (if eR tx L i < L ∧ tx (eR tx L i) = 44 then pF tx L m (eR tx L i + 1) else if eR tx L i = L then -1006 else (eR tx L i : Int)) (fR tx L i : Int)
noncomputable def pL (tx : Int → Int) (L : Nat) : Nat → Nat → List (Int × Int)
  | 0, _ => []
  | m + 1, i => @ite _ (okRd tx L i) (Classical.propDecidable _) ((v1R tx L i, v2R tx L i) :: (if eR tx L i < L ∧ tx (eR tx L i) = 44 then pL tx L m (eR tx L i + 1) else [])) []
theorem pF_no {tx : Int → Int} {L m i : Nat} (h : ¬ okRd tx L i) : pF tx L (m + 1) i = (fR tx L i : Int) := if_neg h
theorem pF_ok {tx : Int → Int} {L m i : Nat} (h : okRd tx L i) : pF tx L (m + 1) i = (if eR tx L i < L ∧ tx (eR tx L i) = 44 then pF tx L m (eR tx L i + 1) else if eR tx L i = L then -1006 else (eR tx L i : Int)) := if_pos h
theorem pL_ok {tx : Int → Int} {L m i : Nat} (h : okRd tx L i) : pL tx L (m + 1) i = (v1R tx L i, v2R tx L i) :: (if eR tx L i < L ∧ tx (eR tx L i) = 44 then pL tx L m (eR tx L i + 1) else []) := if_pos h
theorem pF_Rd {tx : Int → Int} {L : Nat} : ∀ (m i : Nat), pF tx L m i = -1006 → Rd tx L i (pL tx L m i) := by
  intro m
  induction m with
  | zero => intro i h; have : ((i : Nat) : Int) = -1006 := h; omega
  | succ m ih =>
    intro i h
    by_cases ok : okRd tx L i
    · rw [pF_ok ok] at h
      rw [pL_ok ok]
      have hb := okRd_b ok
      obtain ⟨h1, h2, h3⟩ := ok
      obtain ⟨a1, -⟩ := bd_Bd h1
      obtain ⟨b1, b2, -⟩ := bd_Bd h3
      refine ⟨e1R tx L i, eR tx L i, a1, h2.1, h2.2, b1, hb.2.2.1, ?_⟩
      by_cases c : eR tx L i < L ∧ tx (eR tx L i) = 44
      · rw [if_pos c] at h ⊢
        exact Or.inr ⟨c.1, c.2, ih _ h⟩
      · rw [if_neg c] at h ⊢
        by_cases e : eR tx L i = L
        · exact Or.inl ⟨rfl, e⟩
        · rw [if_neg e] at h
          omega
    · rw [pF_no ok] at h
      omega
theorem dfa_s {tx : Int → Int} {n i j : Nat} (hn : n = j + 1) (ia d : Int) : dfa tx n (i : Int) ia d = @ite _ (cdF (tx i) d) (Classical.propDecidable _) (dfa tx j ((i + 1 : Nat) : Int) ia (if tx i = 49 ∧ d = 0 then 1 else 2)) (if ¬ d = 0 ∧ tx i = (if ia = 1 then 44 else 58) then dfa tx j ((i + 1 : Nat) : Int) (1 - ia) 0 else (i : Int)) := by
  subst hn
  rw [show ((i + 1 : Nat) : Int) = (i : Int) + 1 by omega]
  rfl
theorem dfa_no {tx : Int → Int} {L i : Nat} (hi : i ≤ L) (h : bdN tx L i = 0) (ia : Int) : dfa tx (L - i) (i : Int) ia 0 = (i : Int) := by
  rcases bdN_c tx L i with ⟨_, e⟩ | ⟨e, _⟩ | ⟨e, _⟩
  · by_cases hl : i = L
    · rw [show L - i = 0 by omega]
      exact if_neg (fun z => z.2 rfl)
    · rw [dfa_s (j := L - i - 1) (by omega), if_neg (fun z => ?_), if_neg (fun z => z.1 rfl)]
      unfold cdF at z
      omega
  · omega
  · omega
theorem dfa_bd {tx : Int → Int} {L i : Nat} (h : ¬ bdN tx L i = 0) (ia : Int) : ∃ d : Int, ¬ d = 0 ∧ dfa tx (L - i) (i : Int) ia 0 = dfa tx (L - e1R tx L i) ((e1R tx L i : Nat) : Int) ia d ∧ (e1R tx L i < L → ¬ cdF (tx (e1R tx L i)) d) := by
  unfold e1R
  rcases bdN_c tx L i with ⟨e, _⟩ | ⟨e, h1, h2⟩ | ⟨e, h1, h2, h3⟩
  · exact absurd e h
  · rw [e]
    refine ⟨if tx i = 49 ∧ (0 : Int) = 0 then 1 else 2, by split <;> decide, ?_, fun hl z => ?_⟩
    · rw [dfa_s (j := L - (i + 1)) (by omega), if_pos (show cdF (tx (i : Int)) 0 from Or.inl ⟨rfl, h1.2⟩)]
    · unfold cdF at z
      by_cases q : tx i = 49 ∧ (0 : Int) = 0
      · rw [if_pos q] at z
        exact h2 ⟨q.1, hl, by omega, by omega⟩
      · rw [if_neg q] at z
        omega
  · rw [e]
    refine ⟨2, by decide, ?_, fun _ z => by unfold cdF at z; omega⟩
    rw [dfa_s (j := L - (i + 1)) (by omega), if_pos (show cdF (tx (i : Int)) 0 from Or.inl ⟨rfl, by omega, by omega⟩), if_pos (show tx (i : Int) = 49 ∧ (0 : Int) = 0 from ⟨h2, rfl⟩), dfa_s (j := L - (i + 2)) (by omega), if_pos (show cdF (tx ((i + 1 : Nat) : Int)) 1 from Or.inr ⟨rfl, h3⟩), if_neg (fun z : tx ((i + 1 : Nat) : Int) = 49 ∧ (1 : Int) = 0 => absurd z.2 (by decide))]
theorem dfa_end {tx : Int → Int} {L j : Nat} (hj : j ≤ L) {d : Int} (hd : ¬ d = 0) (hc : j < L → ¬ cdF (tx j) d) (ia : Int) : dfa tx (L - j) (j : Int) ia d = if j < L ∧ tx j = (if ia = 1 then 44 else 58) then dfa tx (L - (j + 1)) ((j + 1 : Nat) : Int) (1 - ia) 0 else if j = L ∧ ia = 1 then -1006 else (j : Int) := by
  by_cases hl : j = L
  · rw [if_neg (fun z => by omega), show L - j = 0 by omega]
    show (if ia = 1 ∧ ¬ d = 0 then (-1006 : Int) else (j : Int)) = _
    by_cases q : ia = 1
    · rw [if_pos ⟨q, hd⟩, if_pos ⟨hl, q⟩]
    · rw [if_neg (fun z => q z.1), if_neg (fun z => q z.2)]
  · rw [dfa_s (j := L - (j + 1)) (by omega), if_neg (hc (by omega))]
    by_cases q : tx j = (if ia = 1 then 44 else 58)
    · rw [if_pos ⟨hd, q⟩, if_pos ⟨by omega, q⟩]
    · rw [if_neg (fun z => q z.2), if_neg (fun z => q z.2), if_neg (fun z => hl z.1)]
theorem pF_dfa {tx : Int → Int} {L : Nat} : ∀ (m i : Nat), i ≤ L → L < i + m → pF tx L m i = dfa tx (L - i) (i : Int) 0 0 := by
  intro m
  induction m with
  | zero => intro i h1 h2; omega
  | succ m ih =>
    intro i hi hm
    by_cases hb : bdN tx L i = 0
    · have no : ¬ okRd tx L i := fun z => z.1 hb
      rw [pF_no no, dfa_no hi hb]
      unfold fR
      rw [if_neg (fun z => z.2.2 hb)]
      unfold e1R
      rw [hb]
      rfl
    · obtain ⟨a1, a2, a3, a4, a5⟩ := bd_Bd hb
      obtain ⟨d, hd, e, hc⟩ := dfa_bd hb 0
      rw [e, dfa_end (by unfold e1R; omega) hd hc]
      rw [show (if (0 : Int) = 1 then (44 : Int) else 58) = 58 from rfl]
      by_cases hs : e1R tx L i < L ∧ tx (e1R tx L i) = 58
      · rw [if_pos hs]
        by_cases hb2 : bdN tx L (e1R tx L i + 1) = 0
        · have no : ¬ okRd tx L i := fun z => z.2.2 hb2
          rw [pF_no no, dfa_no (by omega) hb2]
          unfold fR
          rw [if_pos ⟨hs.1, hs.2, hb⟩]
        · have ok : okRd tx L i := ⟨hb, hs, hb2⟩
          have hb := okRd_b ok
          obtain ⟨d2, hd2, e2, hc2⟩ := dfa_bd hb2 (1 - 0)
          rw [pF_ok ok, e2, show e1R tx L (e1R tx L i + 1) = eR tx L i from rfl]
          rw [show e1R tx L (e1R tx L i + 1) = eR tx L i from rfl] at hc2
          rw [dfa_end hb.2.2.1 hd2 hc2, show (if (1 - 0 : Int) = 1 then (44 : Int) else 58) = 44 from rfl]
          by_cases hk : eR tx L i < L ∧ tx (eR tx L i) = 44
          · rw [if_pos hk, if_pos hk]
            exact ih _ (by omega) (by omega)
          · rw [if_neg hk, if_neg hk]
            by_cases hl : eR tx L i = L
            · rw [if_pos hl, if_pos ⟨hl, rfl⟩]
            · rw [if_neg hl, if_neg (fun z => hl z.1)]
      · have no : ¬ okRd tx L i := fun z => hs z.2.1
        rw [pF_no no, if_neg hs, if_neg (fun z => absurd z.2 (by decide))]
        unfold fR
        rw [if_neg (fun z => hs ⟨z.1, z.2.1⟩)]
/-- the rounds told, from the m-th on -/
def TH (to : Int → Int) : Nat → List (Int × Int) → Prop
  | _, [] => True
  | m, r :: R => to (2 * (m : Int)) = r.1 ∧ to (2 * (m : Int) + 1) = r.2 ∧ (0 ≤ r.1 ∧ r.1 ≤ 14) ∧ (0 ≤ r.2 ∧ r.2 ≤ 14) ∧ TH to (m + 1) R
theorem TH_w {to : Int → Int} {z v : Int} : ∀ (R : List (Int × Int)) (m : Nat), TH to m R → 2 * ((m + R.length : Nat) : Int) ≤ z → TH (uZ to z v) m R := by
  intro R
  induction R with
  | nil => intro m _ _; trivial
  | cons r R ih =>
    intro m h hz
    rw [List.length_cons] at hz
    obtain ⟨h1, h2, h3, h4, h5⟩ := h
    exact ⟨(uZ_n (by omega)).trans h1, (uZ_n (by omega)).trans h2, h3, h4, ih (m + 1) h5 (by omega)⟩
theorem TH_a {to : Int → Int} {r : Int × Int} : ∀ (R : List (Int × Int)) (m : Nat), TH to m R → to (2 * ((m + R.length : Nat) : Int)) = r.1 → to (2 * ((m + R.length : Nat) : Int) + 1) = r.2 → (0 ≤ r.1 ∧ r.1 ≤ 14) → (0 ≤ r.2 ∧ r.2 ≤ 14) → TH to m (R ++ [r]) := by
  intro R
  induction R with
  | nil => intro m _ h1 h2 h3 h4; exact ⟨h1, h2, h3, h4, trivial⟩
  | cons r0 R ih =>
    intro m h h1 h2 h3 h4
    rw [List.length_cons] at h1 h2
    obtain ⟨g1, g2, g3, g4, g5⟩ := h
    refine ⟨g1, g2, g3, g4, ih (m + 1) g5 ?_ ?_ h3 h4⟩
    · rw [← h1]; congr 2; omega
    · rw [← h2]; congr 2; omega
theorem TH_1 {to : Int → Int} {P : List (Int × Int)} {rd : Int} {r : Int × Int} (h : TH to 0 P) (hr : rd = (P.length : Int)) (h3 : 0 ≤ r.1 ∧ r.1 ≤ 14) (h4 : 0 ≤ r.2 ∧ r.2 ≤ 14) : TH (uZ (uZ to (2 * rd) r.1) (2 * rd + 1) r.2) 0 (P ++ [r]) := by
  subst hr
  have e : ((0 + P.length : Nat) : Int) = (P.length : Int) := by omega
  refine TH_a P 0 (TH_w P 0 (TH_w P 0 h (by rw [e]; omega)) (by rw [e]; omega)) ?_ ?_ h3 h4
  · rw [e, uZ_n (by omega), uZ_e]
  · rw [e, uZ_e]
set_option maxHeartbeats 1000000 in
set_option maxRecDepth 20000 in
theorem c_X10_charactersOf {S : pS} {x : Nat} (hx : x < 2 ^ 64) : Ct yX10_charactersOf cX10_charactersOf 5 (Option.some FieldType.int) 1 0 0 [.long (lN x)] S (kI (csF 8 0 x) S) := by
  refine Ct.ofJ (by decide +kernel) (Nat.le_of_ble_eq_true rfl) ?_
  refine J_L (L1 := [some (.long (lN x)), none, none, none, none]) rfl ?_
  have LP : ∀ (r n z : Nat), n + r = 8 → z < 2 ^ 64 → z < 256 ^ r → csF r n z = csF 8 0 x → Jd yX10_charactersOf cX10_charactersOf 5 (Option.some FieldType.int) 1 0 0 (kI (csF 8 0 x) S) 0 0 S 5 [some (.long (lN x)), none, some (.long (lN z)), none, some (.int (iI (n : Int)))] [] := by
    intro r
    induction r with
    | zero =>
      intro n z h1 hx64 hz h2
      have hz : z < 1 := hz
      have hz0 : z = 0 := by omega
      refine J_iload (pc1 := 7) rfl dX10_charactersOf_5 rfl ?_
      refine J_bipush (pc1 := 9) (by decide) dX10_charactersOf_7 rfl ?_
      refine J_icmp_ge (pc1 := 12) (tgt := 40) (by omega) (by omega) (by decide) (by decide) dX10_charactersOf_9 rfl rfl (fun hc1 => ?_) (fun hc1 => ?_)
      · refine J_lload_n (pc1 := 41) rfl (i := 2) rfl dX10_charactersOf_40 rfl ?_
        refine J_lconst (pc1 := 42) (v := 0) (by decide) dX10_charactersOf_41 rfl ?_
        have hlc := lcZ_b (lN z) 0
        refine J_lcmpZ (pc1 := 43) dX10_charactersOf_42 rfl ?_
        refine J_if_ne (pc1 := 46) (tgt := 51) (by omega) (by omega) dX10_charactersOf_43 rfl rfl (fun hc2 => ?_) (fun hc2 => ?_)
        · exact absurd ((lcZ_0 hx64).mpr hz0) hc2
        · refine J_iload (pc1 := 48) rfl dX10_charactersOf_46 rfl ?_
          refine J_goto (tgt := 52) dX10_charactersOf_48 rfl ?_
          exact J_iret rfl rfl dX10_charactersOf_52 (Nat.le_refl _) (Nat.le_refl _) (kI_mk h2)
      · exact absurd (by omega) hc1
    | succ r ih =>
      intro n z h1 hx64 hz h2
      have h2 : (if z = 0 then (n : Int) else if z % 256 < 33 ∨ 126 < z % 256 then 0 else csF r (n + 1) (z / 256)) = csF 8 0 x := h2
      have hz2 : z / 256 < 256 ^ r := Nat.div_lt_of_lt_mul (by rw [Nat.pow_succ, Nat.mul_comm] at hz; exact hz)
      refine J_iload (pc1 := 7) rfl dX10_charactersOf_5 rfl ?_
      refine J_bipush (pc1 := 9) (by decide) dX10_charactersOf_7 rfl ?_
      refine J_icmp_ge (pc1 := 12) (tgt := 40) (by omega) (by omega) (by decide) (by decide) dX10_charactersOf_9 rfl rfl (fun hc3 => ?_) (fun hc3 => ?_)
      · exact absurd hc3 (by omega)
      · refine J_lload_n (pc1 := 13) rfl (i := 2) rfl dX10_charactersOf_12 rfl ?_
        refine J_ldc2 (pc1 := 16) lq_X10_149 dX10_charactersOf_13 rfl ?_
        refine J_land (pc1 := 17) dX10_charactersOf_16 rfl ?_
        rw [lN_and]
        refine J_ldc2 (pc1 := 20) lq_X10_151 dX10_charactersOf_17 rfl ?_
        refine J_ldc2 (pc1 := 23) lq_X10_153 dX10_charactersOf_20 rfl ?_
        refine J_callSI (pc1 := 26) (As := [.long (lN (z % 256)), .long (33 : Int64), .long (126 : Int64)]) gs_X10_95 yv_X10_in (c_X10_in (v := ((z % 256 : Nat) : Int)) (lo := 33) (hi := 126) (lN_ti (by omega)) (by decide) (by decide)) dX10_charactersOf_23 rfl rfl rfl (by omega) (by decide) (by omega) (by omega) (Nat.le_of_ble_eq_true rfl) ?_
        refine J_if_eq (pc1 := 29) (tgt := 40) (bC_lo _) (bC_hi _) dX10_charactersOf_26 rfl rfl (fun hc4 => ?_) (fun hc4 => ?_)
        · refine J_lload_n (pc1 := 41) rfl (i := 2) rfl dX10_charactersOf_40 rfl ?_
          refine J_lconst (pc1 := 42) (v := 0) (by decide) dX10_charactersOf_41 rfl ?_
          have hlc := lcZ_b (lN z) 0
          refine J_lcmpZ (pc1 := 43) dX10_charactersOf_42 rfl ?_
          refine J_if_ne (pc1 := 46) (tgt := 51) (by omega) (by omega) dX10_charactersOf_43 rfl rfl (fun hc5 => ?_) (fun hc5 => ?_)
          · refine J_iconst (pc1 := 52) dX10_charactersOf_51 rfl ?_
            exact J_iret rfl rfl dX10_charactersOf_52 (Nat.le_refl _) (Nat.le_refl _) (kI_mk (by rw [← h2, if_neg (fun q => (show ¬ lcZ (lN z) 0 = 0 by assumption) ((lcZ_0 hx64).mpr q)), if_pos (by have := bC_0 (P := (33 : Int) ≤ ((z % 256 : Nat) : Int) ∧ ((z % 256 : Nat) : Int) ≤ 126) (by assumption); omega)]))
          · refine J_iload (pc1 := 48) rfl dX10_charactersOf_46 rfl ?_
            refine J_goto (tgt := 52) dX10_charactersOf_48 rfl ?_
            exact J_iret rfl rfl dX10_charactersOf_52 (Nat.le_refl _) (Nat.le_refl _) (kI_mk (by rw [← h2, if_pos ((lcZ_0 hx64).mp (by assumption))]))
        · refine J_lload_n (pc1 := 30) rfl (i := 2) rfl dX10_charactersOf_29 rfl ?_
          refine J_bipush (pc1 := 32) (by decide) dX10_charactersOf_30 rfl ?_
          refine J_lushr (pc1 := 33) (v := lN (z / 256)) (lN_ushr hx64 (s := 8) (by decide) (by decide)) dX10_charactersOf_32 rfl ?_
          refine J_lstore_n (pc1 := 34) (L1 := [some (.long (lN x)), none, some (.long (lN (z / 256))), none, some (.int (iI (n : Int)))]) rfl (i := 2) dX10_charactersOf_33 rfl (by decide) rfl rfl ?_
          refine J_iinc (pc1 := 37) (L1 := [some (.long (lN x)), none, some (.long (lN (z / 256))), none, some (.int (iI ((n : Int) + 1)))]) dX10_charactersOf_34 rfl rfl (by decide) rfl rfl ?_
          refine J_goto (tgt := 5) dX10_charactersOf_37 rfl ?_
          have hcc := bC_1 (P := (33 : Int) ≤ ((z % 256 : Nat) : Int) ∧ ((z % 256 : Nat) : Int) ≤ 126) (by assumption)
          rw [show ((n : Int) + 1) = ((n + 1 : Nat) : Int) by omega]
          rw [if_neg (by omega), if_neg (by omega)] at h2
          exact ih (n + 1) (z / 256) (by omega) (by omega) hz2 h2
  refine J_lload_n (pc1 := 1) rfl (i := 0) rfl dX10_charactersOf_0 rfl ?_
  refine J_lstore_n (pc1 := 2) (L1 := [some (.long (lN x)), none, some (.long (lN x)), none, none]) rfl (i := 2) dX10_charactersOf_1 rfl (by decide) rfl rfl ?_
  refine J_iconst (pc1 := 3) dX10_charactersOf_2 rfl ?_
  refine J_istore (pc1 := 5) (L1 := [some (.long (lN x)), none, some (.long (lN x)), none, some (.int (iI 0))]) dX10_charactersOf_3 rfl (by decide) rfl rfl ?_
  exact LP 8 0 x (by omega) hx hx rfl
set_option maxHeartbeats 1000000 in
set_option maxRecDepth 20000 in
theorem pt_s {S : pS} {B : Nat → Nat} {f hs sl sv ti to : Int → Int} {n ik kr ks sp nu rd : Int} {tx : Int → Int} {L : Nat} {K : Option Value → pS → Prop} {x n9 : Nat} (hx64 : x < 2 ^ 64) (hl : L + n9 ≤ 60) (hn8 : n9 ≤ 8) {j : Nat} (hj : j < n9) (W : MW S B f hs sl sv ti (apF tx L n9 x j) to n ik kr ks (L : Int) sp nu rd) (k : ∀ T, MW T B f hs sl sv ti (apF tx L n9 x (j + 1)) to n ik kr ks (L : Int) sp nu rd → frM S T B → Jd yX10_put cX10_put 5 (Option.some FieldType.int) 2 0 0 K 0 0 T 31 [some (.ref (B 0)), some (.long (lN x)), none, some (.int (iI (n9 : Int))), some (.int (iI ((j + 1 : Nat) : Int)))] []) : Jd yX10_put cX10_put 5 (Option.some FieldType.int) 2 0 0 K 0 0 S 31 [some (.ref (B 0)), some (.long (lN x)), none, some (.int (iI (n9 : Int))), some (.int (iI (j : Int)))] [] := by
  refine J_iload (pc1 := 33) rfl dX10_put_31 rfl ?_
  refine J_iload_n (pc1 := 34) rfl (i := 3) rfl dX10_put_33 rfl ?_
  refine J_icmp_ge (pc1 := 37) (tgt := 71) (by omega) (by omega) (by omega) (by omega) dX10_put_34 rfl rfl (fun hc1 => ?_) (fun hc1 => ?_)
  · exact absurd hc1 (by omega)
  · refine J_aload_n (pc1 := 38) rfl (i := 0) rfl dX10_put_37 rfl ?_
    refine J_get (pc1 := 41) (j := 9) inUX10 (ci := 10) rfl (by decide) lf_X10_25 dX10_put_38 rfl W.1 rfl ?_
    refine J_aload_n (pc1 := 42) rfl (i := 0) rfl dX10_put_41 rfl ?_
    refine J_get (pc1 := 45) (j := 10) inUX10 (ci := 10) rfl (by decide) lf_X10_132 dX10_put_42 rfl W.1 rfl ?_
    refine J_iload (pc1 := 47) rfl dX10_put_45 rfl ?_
    refine J_iadd (pc1 := 48) dX10_put_47 rfl ?_
    refine J_lload_n (pc1 := 49) rfl (i := 1) rfl dX10_put_48 rfl ?_
    refine J_bipush (pc1 := 51) (by decide) dX10_put_49 rfl ?_
    refine J_iload_n (pc1 := 52) rfl (i := 3) rfl dX10_put_51 rfl ?_
    refine J_iconst (pc1 := 53) dX10_put_52 rfl ?_
    refine J_isub (pc1 := 54) dX10_put_53 rfl ?_
    refine J_iload (pc1 := 56) rfl dX10_put_54 rfl ?_
    refine J_isub (pc1 := 57) dX10_put_56 rfl ?_
    refine J_imul (pc1 := 58) dX10_put_57 rfl ?_
    refine J_lushr (pc1 := 59) (v := lN (x / 2 ^ (8 * (((n9 : Int) - 1) - (j : Int))).toNat)) (lN_ushr hx64 (s := 8 * (((n9 : Int) - 1) - (j : Int))) (by omega) (by omega)) dX10_put_58 rfl ?_
    refine J_ldc2 (pc1 := 62) lq_X10_149 dX10_put_59 rfl ?_
    refine J_land (pc1 := 63) dX10_put_62 rfl ?_
    rw [lN_and]
    refine J_l2i (pc1 := 64) dX10_put_63 rfl ?_
    rw [lN_i32]
    refine J_iast (pc1 := 65) dX10_put_64 rfl W.2.2.2.2.2.2.1 (by omega) (by omega) (by omega) ?_
    refine J_iinc (pc1 := 68) (L1 := [some (.ref (B 0)), some (.long (lN x)), none, some (.int (iI (n9 : Int))), some (.int (iI ((j : Int) + 1)))]) dX10_put_65 rfl rfl (by decide) rfl rfl ?_
    refine J_goto (tgt := 31) dX10_put_68 rfl ?_
    refine J_L (L1 := [some (.ref (B 0)), some (.long (lN x)), none, some (.int (iI (n9 : Int))), some (.int (iI ((j + 1 : Nat) : Int)))]) (by rw [show ((j : Nat) : Int) + 1 = ((j + 1 : Nat) : Int) by omega]) ?_
    have hW : MW (pu S (B 6) (aI 60 (uZ (apF tx L n9 x j) ((L : Int) + (j : Int)) ((((x / 2 ^ (8 * (((n9 : Int) - 1) - (j : Int))).toNat) % 256) : Nat) : Int)))) B f hs sl sv ti (uZ (apF tx L n9 x j) ((L : Int) + (j : Int)) ((((x / 2 ^ (8 * (((n9 : Int) - 1) - (j : Int))).toNat) % 256) : Nat) : Int)) to n ik kr ks (L : Int) sp nu rd := ⟨((pu_ne _ _ (ne_OI W.1 W.2.2.2.2.2.2.1)).trans W.1), ((pu_ne _ _ (ne_II W.2.1 W.2.2.2.2.2.2.1 (by decide))).trans W.2.1), ((pu_ne _ _ (ne_II W.2.2.1 W.2.2.2.2.2.2.1 (by decide))).trans W.2.2.1), ((pu_ne _ _ (ne_II W.2.2.2.1 W.2.2.2.2.2.2.1 (by decide))).trans W.2.2.2.1), ((pu_ne _ _ (ne_II W.2.2.2.2.1 W.2.2.2.2.2.2.1 (by decide))).trans W.2.2.2.2.1), ((pu_ne _ _ (ne_II W.2.2.2.2.2.1 W.2.2.2.2.2.2.1 (by decide))).trans W.2.2.2.2.2.1), (pu_self _ _ _), ((pu_ne _ _ (ne_II W.2.2.2.2.2.2.2 W.2.2.2.2.2.2.1 (by decide))).trans W.2.2.2.2.2.2.2)⟩
    have hq : (uZ (apF tx L n9 x j) ((L : Int) + (j : Int)) ((((x / 2 ^ (8 * (((n9 : Int) - 1) - (j : Int))).toNat) % 256) : Nat) : Int)) = apF tx L n9 x (j + 1) := by
      rw [show (8 * ((n9 : Int) - 1 - (j : Int))).toNat = 8 * (n9 - 1 - j) by omega, show (L : Int) + (j : Int) = ((L + j : Nat) : Int) by omega]
      exact apF_s tx hj
    have hr : frM S (pu S (B 6) (aI 60 (uZ (apF tx L n9 x j) ((L : Int) + (j : Int)) ((((x / 2 ^ (8 * (((n9 : Int) - 1) - (j : Int))).toNat) % 256) : Nat) : Int)))) B := fun x h0 h1 h2 h3 h4 h5 h6 h7 => (pu_ne _ _ h6)
    generalize (pu S (B 6) (aI 60 (uZ (apF tx L n9 x j) ((L : Int) + (j : Int)) ((((x / 2 ^ (8 * (((n9 : Int) - 1) - (j : Int))).toNat) % 256) : Nat) : Int)))) = Ta at hW hr ⊢
    rw [hq] at hW
    exact k _ hW hr
set_option maxHeartbeats 1000000 in
set_option maxRecDepth 20000 in
theorem pt_x {S : pS} {B : Nat → Nat} {f hs sl sv ti to : Int → Int} {n ik kr ks sp nu rd : Int} {tx : Int → Int} {L : Nat} {K : Option Value → pS → Prop} {x n9 : Nat} (hx64 : x < 2 ^ 64) (hl : L + n9 ≤ 60) (hn8 : n9 ≤ 8) (W : MW S B f hs sl sv ti (apF tx L n9 x n9) to n ik kr ks (L : Int) sp nu rd) (hK : ∀ T, MW T B f hs sl sv ti (apF tx L n9 x n9) to n ik kr ks ((L + n9 : Nat) : Int) sp nu rd → frM S T B → K (some (.int (iI ((L + n9 : Nat) : Int)))) T) : Jd yX10_put cX10_put 5 (Option.some FieldType.int) 2 0 0 K 0 0 S 31 [some (.ref (B 0)), some (.long (lN x)), none, some (.int (iI (n9 : Int))), some (.int (iI (n9 : Int)))] [] := by
  refine J_iload (pc1 := 33) rfl dX10_put_31 rfl ?_
  refine J_iload_n (pc1 := 34) rfl (i := 3) rfl dX10_put_33 rfl ?_
  refine J_icmp_ge (pc1 := 37) (tgt := 71) (by omega) (by omega) (by omega) (by omega) dX10_put_34 rfl rfl (fun hc1 => ?_) (fun hc1 => ?_)
  · refine J_aload_n (pc1 := 72) rfl (i := 0) rfl dX10_put_71 rfl ?_
    refine J_dup (pc1 := 73) rfl dX10_put_72 rfl ?_
    refine J_get (pc1 := 76) (j := 10) inUX10 (ci := 10) rfl (by decide) lf_X10_132 dX10_put_73 rfl W.1 rfl ?_
    refine J_iload_n (pc1 := 77) rfl (i := 3) rfl dX10_put_76 rfl ?_
    refine J_iadd (pc1 := 78) dX10_put_77 rfl ?_
    refine J_put (pc1 := 81) (ty := .int) (j := 10) (fs1 := [.ref (B 1), .ref (B 2), .int (iI n), .ref (B 3), .ref (B 4), .ref (B 5), .int (iI ik), .int (iI kr), .int (iI ks), .ref (B 6), .int (iI ((L : Int) + (n9 : Int))), .int (iI sp), .int (iI nu), .ref (B 7), .int (iI rd)]) inUX10 (ci := 10) rfl (by decide) tyX10 tyX10_ok nmX10 rfl (by decide +kernel) lf_X10_132 dX10_put_78 rfl W.1 rfl (by rfl) (Nat.le_of_ble_eq_true rfl) rfl ?_
    refine J_aload_n (pc1 := 82) rfl (i := 0) rfl dX10_put_81 rfl ?_
    refine J_get (pc1 := 85) (j := 10) inUX10 (ci := 10) rfl (by decide) lf_X10_132 dX10_put_82 rfl (pu_self _ _ _) rfl ?_
    exact J_iret rfl rfl dX10_put_85 (Nat.le_refl _) (Nat.le_refl _) (by have h := hK _ (by rw [show ((L + n9 : Nat) : Int) = (L : Int) + (n9 : Int) by omega]; exact ⟨(pu_self _ _ _), ((pu_ne _ _ (ne_IO W.2.1 W.1)).trans W.2.1), ((pu_ne _ _ (ne_IO W.2.2.1 W.1)).trans W.2.2.1), ((pu_ne _ _ (ne_IO W.2.2.2.1 W.1)).trans W.2.2.2.1), ((pu_ne _ _ (ne_IO W.2.2.2.2.1 W.1)).trans W.2.2.2.2.1), ((pu_ne _ _ (ne_IO W.2.2.2.2.2.1 W.1)).trans W.2.2.2.2.2.1), ((pu_ne _ _ (ne_IO W.2.2.2.2.2.2.1 W.1)).trans W.2.2.2.2.2.2.1), ((pu_ne _ _ (ne_IO W.2.2.2.2.2.2.2 W.1)).trans W.2.2.2.2.2.2.2)⟩) (fun x h0 h1 h2 h3 h4 h5 h6 h7 => (pu_ne _ _ h0)); rw [show ((L + n9 : Nat) : Int) = (L : Int) + (n9 : Int) by omega] at h; exact h)
  · exact absurd (Int.le_refl _) hc1
theorem pt_l {B : Nat → Nat} {f hs sl sv ti to : Int → Int} {n ik kr ks sp nu rd : Int} {tx : Int → Int} {L : Nat} {K : Option Value → pS → Prop} {x n9 : Nat} (hx64 : x < 2 ^ 64) (hl : L + n9 ≤ 60) (hn8 : n9 ≤ 8) : ∀ (r : Nat) {S : pS} {j : Nat} (W : MW S B f hs sl sv ti (apF tx L n9 x j) to n ik kr ks (L : Int) sp nu rd), j + r = n9 → (∀ T, MW T B f hs sl sv ti (apF tx L n9 x n9) to n ik kr ks ((L + n9 : Nat) : Int) sp nu rd → frM S T B → K (some (.int (iI ((L + n9 : Nat) : Int)))) T) → Jd yX10_put cX10_put 5 (Option.some FieldType.int) 2 0 0 K 0 0 S 31 [some (.ref (B 0)), some (.long (lN x)), none, some (.int (iI (n9 : Int))), some (.int (iI (j : Int)))] [] := by
  intro r
  induction r with
  | zero =>
    intro S j W h hK
    have e : j = n9 := h
    subst e
    exact pt_x hx64 hl hn8 W hK
  | succ r ih =>
    intro S j W h hK
    refine pt_s hx64 hl hn8 (by omega) W (fun T W1 r1 => ?_)
    exact ih W1 (by omega) (fun U W2 r2 => hK U W2 (frM.tr r1 r2))
set_option maxHeartbeats 1000000 in
set_option maxRecDepth 20000 in
theorem c_X10_put {S : pS} {B : Nat → Nat} {f f1 f2 : Int → Int} {b0 b1 : Int} {n : Nat} {H : Nat → Int → Int} {tx : Int → Int} {L : Nat} (hM : MS S B f f1 f2 b0 b1 n H tx L) (ok : okX f f1 f2 b0 b1 n H) {x : Nat} (hx : x < 2 ^ 64) (hL60 : L ≤ 60) : Ct yX10_put cX10_put 5 (Option.some FieldType.int) 2 0 0 [.ref (B 0), .long (lN x)] S (KOR (¬ csF 8 0 x = 0 ∧ (L : Int) + csF 8 0 x ≤ 60) (if csF 8 0 x = 0 then -1002 else -1004) ((L : Int) + csF 8 0 x) S (fun T => MS T B f f1 f2 b0 b1 n H (apF tx L (csF 8 0 x).toNat x (csF 8 0 x).toNat) (L + (csF 8 0 x).toNat) ∧ frM S T B)) := by
  have hM9 := hM
  obtain ⟨hs, sl, sv, ti, to, ik, kr, ks, sp, nu, rd, W, hH, hm0, hm1, hv0, hv1, hC⟩ := hM
  have okf := ok.1
  have hn6 := ok.2.2.2.2.2.1
  obtain ⟨n9, hn9⟩ : ∃ n9 : Nat, csF 8 0 x = (n9 : Int) := ⟨(csF 8 0 x).toNat, by have := csF_b 8 0 x; omega⟩
  have hn8 := csF_b 8 0 x
  have hcs := c_X10_charactersOf (S := S) hx
  rw [hn9] at hcs
  refine Ct.ofJ (by decide +kernel) (Nat.le_of_ble_eq_true rfl) ?_
  refine J_L (L1 := [some (.ref (B 0)), some (.long (lN x)), none, none, none]) rfl ?_
  refine J_lload_n (pc1 := 1) rfl (i := 1) rfl dX10_put_0 rfl ?_
  refine J_callSI (pc1 := 4) (As := [.long (lN x)]) gs_X10_155 yv_X10_charactersOf hcs dX10_put_1 rfl rfl rfl (by omega) (by decide) (by omega) (by omega) (Nat.le_of_ble_eq_true rfl) ?_
  refine J_istore_n (pc1 := 5) (L1 := [some (.ref (B 0)), some (.long (lN x)), none, some (.int (iI (n9 : Int))), none]) rfl (i := 3) dX10_put_4 rfl (by decide) rfl rfl ?_
  refine J_iload_n (pc1 := 6) rfl (i := 3) rfl dX10_put_5 rfl ?_
  refine J_if_ne (pc1 := 9) (tgt := 13) (by omega) (by omega) dX10_put_6 rfl rfl (fun hc1 => ?_) (fun hc1 => ?_)
  · refine J_aload_n (pc1 := 14) rfl (i := 0) rfl dX10_put_13 rfl ?_
    refine J_get (pc1 := 17) (j := 10) inUX10 (ci := 10) rfl (by decide) lf_X10_132 dX10_put_14 rfl W.1 rfl ?_
    refine J_iload_n (pc1 := 18) rfl (i := 3) rfl dX10_put_17 rfl ?_
    refine J_iadd (pc1 := 19) dX10_put_18 rfl ?_
    refine J_bipush (pc1 := 21) (by decide) dX10_put_19 rfl ?_
    refine J_icmp_le (pc1 := 24) (tgt := 28) (by omega) (by omega) (by decide) (by decide) dX10_put_21 rfl rfl (fun hc2 => ?_) (fun hc2 => ?_)
    · refine J_iconst (pc1 := 29) dX10_put_28 rfl ?_
      refine J_istore (pc1 := 31) (L1 := [some (.ref (B 0)), some (.long (lN x)), none, some (.int (iI (n9 : Int))), some (.int (iI 0))]) dX10_put_29 rfl (by decide) rfl rfl ?_
      refine pt_l (L := L) (x := x) (n9 := n9) hx (by omega) (by omega) n9 (j := 0) (by rw [apF_0]; exact ⟨W.1, W.2.1, W.2.2.1, W.2.2.2.1, W.2.2.2.2.1, W.2.2.2.2.2.1, W.2.2.2.2.2.2.1, W.2.2.2.2.2.2.2⟩) (by omega) (fun T W2 r2 => ?_)
      refine KOR_1 ⟨by omega, by omega⟩ (by omega) ⟨?_, r2⟩
      rw [show (csF 8 0 x).toNat = n9 by omega]
      exact ⟨hs, sl, sv, ti, to, ik, kr, ks, sp, nu, rd, W2, hH, hm0, hm1, hv0, hv1, hC⟩
    · refine J_sipush (pc1 := 27) (by decide) dX10_put_24 rfl ?_
      exact J_iret rfl rfl dX10_put_27 (Nat.le_refl _) (Nat.le_refl _) (KOR_0 (fun z => by omega) (by rw [if_neg (by omega)]))
  · refine J_sipush (pc1 := 12) (by decide) dX10_put_9 rfl ?_
    exact J_iret rfl rfl dX10_put_12 (Nat.le_refl _) (Nat.le_refl _) (KOR_0 (fun z => z.1 (by omega)) (by rw [if_pos (by omega)]))
set_option maxHeartbeats 400000 in
set_option maxRecDepth 20000 in
theorem c_X10_isHere {S : pS} {B : Nat → Nat} {f hs sl sv ti tx to : Int → Int} {n ik kr ks nu rd : Int} {L i : Nat} (W : MW S B f hs sl sv ti tx to n ik kr ks (L : Int) (i : Int) nu rd) (hL : L ≤ 60) (hi : i ≤ L) (htx : ∀ k : Int, 0 ≤ tx k ∧ tx k ≤ 255) {lo hi9 : Int} (hlo : -2147483648 ≤ lo ∧ lo < 2147483648) (hh9 : -2147483648 ≤ hi9 ∧ hi9 < 2147483648) : Ct yX10_isHere cX10_isHere 3 (Option.some FieldType.boolean) 1 0 0 [.ref (B 0), .int (iI lo), .int (iI hi9)] S (kI (bC (i < L ∧ lo ≤ tx (i : Int) ∧ tx (i : Int) ≤ hi9)) S) := by
  have ht := htx (i : Int)
  refine Ct.ofJ (by decide +kernel) (Nat.le_of_ble_eq_true rfl) ?_
  refine J_L (L1 := [some (.ref (B 0)), some (.int (iI lo)), some (.int (iI hi9))]) rfl ?_
  refine J_aload_n (pc1 := 1) rfl (i := 0) rfl dX10_isHere_0 rfl ?_
  refine J_get (pc1 := 4) (j := 11) inUX10 (ci := 10) rfl (by decide) lf_X10_159 dX10_isHere_1 rfl W.1 rfl ?_
  refine J_aload_n (pc1 := 5) rfl (i := 0) rfl dX10_isHere_4 rfl ?_
  refine J_get (pc1 := 8) (j := 10) inUX10 (ci := 10) rfl (by decide) lf_X10_132 dX10_isHere_5 rfl W.1 rfl ?_
  refine J_icmp_ge (pc1 := 11) (tgt := 35) (by omega) (by omega) (by omega) (by omega) dX10_isHere_8 rfl rfl (fun hc1 => ?_) (fun hc1 => ?_)
  · refine J_iconst (pc1 := 36) dX10_isHere_35 rfl ?_
    exact J_iret rfl rfl dX10_isHere_36 (Nat.le_refl _) (Nat.le_refl _) (kI_mk (by have ht := htx (i : Int); first | exact (bC_t (by have := bC_1 (P := lo ≤ tx (i : Int) ∧ tx (i : Int) ≤ hi9) (by assumption); omega)).symm | exact (bC_f (by first | omega | (have := bC_0 (P := lo ≤ tx (i : Int) ∧ tx (i : Int) ≤ hi9) (by assumption); omega))).symm))
  · refine J_aload_n (pc1 := 12) rfl (i := 0) rfl dX10_isHere_11 rfl ?_
    refine J_get (pc1 := 15) (j := 9) inUX10 (ci := 10) rfl (by decide) lf_X10_25 dX10_isHere_12 rfl W.1 rfl ?_
    refine J_aload_n (pc1 := 16) rfl (i := 0) rfl dX10_isHere_15 rfl ?_
    refine J_get (pc1 := 19) (j := 11) inUX10 (ci := 10) rfl (by decide) lf_X10_159 dX10_isHere_16 rfl W.1 rfl ?_
    refine J_iald (pc1 := 20) dX10_isHere_19 rfl W.2.2.2.2.2.2.1 (by omega) (by omega) (by omega) ?_
    refine J_i2l (pc1 := 21) dX10_isHere_20 rfl ?_
    refine J_iload_n (pc1 := 22) rfl (i := 1) rfl dX10_isHere_21 rfl ?_
    refine J_i2l (pc1 := 23) dX10_isHere_22 rfl ?_
    refine J_iload_n (pc1 := 24) rfl (i := 2) rfl dX10_isHere_23 rfl ?_
    refine J_i2l (pc1 := 25) dX10_isHere_24 rfl ?_
    refine J_callSI (pc1 := 28) (As := [.long (iI (tx (i : Int))).toInt64, .long (iI lo).toInt64, .long (iI hi9).toInt64]) gs_X10_95 yv_X10_in (c_X10_in (v := tx (i : Int)) (lo := lo) (hi := hi9) (i2l_i (by omega)) (i2l_i (by omega)) (i2l_i (by omega))) dX10_isHere_25 rfl rfl rfl (by omega) (by decide) (by omega) (by omega) (Nat.le_of_ble_eq_true rfl) ?_
    refine J_if_eq (pc1 := 31) (tgt := 35) (bC_lo _) (bC_hi _) dX10_isHere_28 rfl rfl (fun hc2 => ?_) (fun hc2 => ?_)
    · refine J_iconst (pc1 := 36) dX10_isHere_35 rfl ?_
      exact J_iret rfl rfl dX10_isHere_36 (Nat.le_refl _) (Nat.le_refl _) (kI_mk (by have ht := htx (i : Int); first | exact (bC_t (by have := bC_1 (P := lo ≤ tx (i : Int) ∧ tx (i : Int) ≤ hi9) (by assumption); omega)).symm | exact (bC_f (by first | omega | (have := bC_0 (P := lo ≤ tx (i : Int) ∧ tx (i : Int) ≤ hi9) (by assumption); omega))).symm))
    · refine J_iconst (pc1 := 32) dX10_isHere_31 rfl ?_
      refine J_goto (tgt := 36) dX10_isHere_32 rfl ?_
      exact J_iret rfl rfl dX10_isHere_36 (Nat.le_refl _) (Nat.le_refl _) (kI_mk (by have ht := htx (i : Int); first | exact (bC_t (by have := bC_1 (P := lo ≤ tx (i : Int) ∧ tx (i : Int) ≤ hi9) (by assumption); omega)).symm | exact (bC_f (by first | omega | (have := bC_0 (P := lo ≤ tx (i : Int) ∧ tx (i : Int) ≤ hi9) (by assumption); omega))).symm))
set_option maxHeartbeats 1000000 in
set_option maxRecDepth 20000 in
theorem c_X10_takesOne {S : pS} {B : Nat → Nat} {f hs sl sv ti tx to : Int → Int} {n ik kr ks nu rd : Int} {L i : Nat} (W : MW S B f hs sl sv ti tx to n ik kr ks (L : Int) (i : Int) nu rd) (hL : L ≤ 60) (hi : i ≤ L) (htx : ∀ k : Int, 0 ≤ tx k ∧ tx k ≤ 255) {c : Int} (hc : 0 ≤ c ∧ c ≤ 255) : Ct yX10_takesOne cX10_takesOne 3 (Option.some FieldType.boolean) 2 0 0 [.ref (B 0), .int (iI c)] S (kIS (bC (i < L ∧ c ≤ tx (i : Int) ∧ tx (i : Int) ≤ c)) (fun T => ∃ i2 : Nat, MW T B f hs sl sv ti tx to n ik kr ks (L : Int) (i2 : Int) nu rd ∧ frM S T B ∧ ((i < L ∧ tx (i : Int) = c) → i2 = i + 1) ∧ (¬ (i < L ∧ tx (i : Int) = c) → i2 = i))) := by
  refine Ct.ofJ (by decide +kernel) (Nat.le_of_ble_eq_true rfl) ?_
  refine J_L (L1 := [some (.ref (B 0)), some (.int (iI c)), none]) rfl ?_
  refine J_aload_n (pc1 := 1) rfl (i := 0) rfl dX10_takesOne_0 rfl ?_
  refine J_iload_n (pc1 := 2) rfl (i := 1) rfl dX10_takesOne_1 rfl ?_
  refine J_iload_n (pc1 := 3) rfl (i := 1) rfl dX10_takesOne_2 rfl ?_
  refine J_callVI (pc1 := 6) (As := [.int (iI c), .int (iI c)]) gv_X10_162 yv_X10_isHere rfl (c_X10_isHere ⟨W.1, W.2.1, W.2.2.1, W.2.2.2.1, W.2.2.2.2.1, W.2.2.2.2.2.1, W.2.2.2.2.2.2.1, W.2.2.2.2.2.2.2⟩ hL (by omega) htx (lo := c) (hi9 := c) (by omega) (by omega)) dX10_takesOne_3 rfl W.1 rfl rfl (by omega) (by decide) (by omega) (by omega) (Nat.le_of_ble_eq_true rfl) ?_
  refine J_istore_n (pc1 := 7) (L1 := [some (.ref (B 0)), some (.int (iI c)), some (.int (iI (bC (i < L ∧ c ≤ tx (i : Int) ∧ tx (i : Int) ≤ c))))]) rfl (i := 2) dX10_takesOne_6 rfl (by decide) rfl rfl ?_
  refine J_aload_n (pc1 := 8) rfl (i := 0) rfl dX10_takesOne_7 rfl ?_
  refine J_dup (pc1 := 9) rfl dX10_takesOne_8 rfl ?_
  refine J_get (pc1 := 12) (j := 11) inUX10 (ci := 10) rfl (by decide) lf_X10_159 dX10_takesOne_9 rfl W.1 rfl ?_
  refine J_iload_n (pc1 := 13) rfl (i := 2) rfl dX10_takesOne_12 rfl ?_
  refine J_if_eq (pc1 := 16) (tgt := 20) (bC_lo _) (bC_hi _) dX10_takesOne_13 rfl rfl (fun hc1 => ?_) (fun hc1 => ?_)
  · refine J_iconst (pc1 := 21) dX10_takesOne_20 rfl ?_
    refine J_iadd (pc1 := 22) dX10_takesOne_21 rfl ?_
    refine J_put (pc1 := 25) (ty := .int) (j := 11) (fs1 := [.ref (B 1), .ref (B 2), .int (iI n), .ref (B 3), .ref (B 4), .ref (B 5), .int (iI ik), .int (iI kr), .int (iI ks), .ref (B 6), .int (iI (L : Int)), .int (iI ((i : Int) + 0)), .int (iI nu), .ref (B 7), .int (iI rd)]) inUX10 (ci := 10) rfl (by decide) tyX10 tyX10_ok nmX10 rfl (by decide +kernel) lf_X10_159 dX10_takesOne_22 rfl W.1 rfl (by rfl) (Nat.le_of_ble_eq_true rfl) rfl ?_
    refine J_iload_n (pc1 := 26) rfl (i := 2) rfl dX10_takesOne_25 rfl ?_
    exact J_iret rfl (nar_bC _) dX10_takesOne_26 (Nat.le_refl _) (Nat.le_refl _) (by first | exact ⟨rfl, i + 1, ⟨(pu_self _ _ _), ((pu_ne _ _ (ne_IO W.2.1 W.1)).trans W.2.1), ((pu_ne _ _ (ne_IO W.2.2.1 W.1)).trans W.2.2.1), ((pu_ne _ _ (ne_IO W.2.2.2.1 W.1)).trans W.2.2.2.1), ((pu_ne _ _ (ne_IO W.2.2.2.2.1 W.1)).trans W.2.2.2.2.1), ((pu_ne _ _ (ne_IO W.2.2.2.2.2.1 W.1)).trans W.2.2.2.2.2.1), ((pu_ne _ _ (ne_IO W.2.2.2.2.2.2.1 W.1)).trans W.2.2.2.2.2.2.1), ((pu_ne _ _ (ne_IO W.2.2.2.2.2.2.2 W.1)).trans W.2.2.2.2.2.2.2)⟩, fun x h0 h1 h2 h3 h4 h5 h6 h7 => (pu_ne _ _ h0), fun _ => rfl, fun z => absurd (bC_1 (P := i < L ∧ c ≤ tx (i : Int) ∧ tx (i : Int) ≤ c) (by assumption)) (fun q => z ⟨q.1, by omega⟩)⟩ | exact ⟨rfl, i, by rw [show (i : Int) = (i : Int) + 0 by omega]; exact ⟨(pu_self _ _ _), ((pu_ne _ _ (ne_IO W.2.1 W.1)).trans W.2.1), ((pu_ne _ _ (ne_IO W.2.2.1 W.1)).trans W.2.2.1), ((pu_ne _ _ (ne_IO W.2.2.2.1 W.1)).trans W.2.2.2.1), ((pu_ne _ _ (ne_IO W.2.2.2.2.1 W.1)).trans W.2.2.2.2.1), ((pu_ne _ _ (ne_IO W.2.2.2.2.2.1 W.1)).trans W.2.2.2.2.2.1), ((pu_ne _ _ (ne_IO W.2.2.2.2.2.2.1 W.1)).trans W.2.2.2.2.2.2.1), ((pu_ne _ _ (ne_IO W.2.2.2.2.2.2.2 W.1)).trans W.2.2.2.2.2.2.2)⟩, fun x h0 h1 h2 h3 h4 h5 h6 h7 => (pu_ne _ _ h0), fun z => absurd (bC_0 (P := i < L ∧ c ≤ tx (i : Int) ∧ tx (i : Int) ≤ c) (by assumption)) (fun q => q ⟨z.1, by omega, by omega⟩), fun _ => rfl⟩)
  · refine J_iconst (pc1 := 17) dX10_takesOne_16 rfl ?_
    refine J_goto (tgt := 21) dX10_takesOne_17 rfl ?_
    refine J_iadd (pc1 := 22) dX10_takesOne_21 rfl ?_
    refine J_put (pc1 := 25) (ty := .int) (j := 11) (fs1 := [.ref (B 1), .ref (B 2), .int (iI n), .ref (B 3), .ref (B 4), .ref (B 5), .int (iI ik), .int (iI kr), .int (iI ks), .ref (B 6), .int (iI (L : Int)), .int (iI ((i : Int) + 1)), .int (iI nu), .ref (B 7), .int (iI rd)]) inUX10 (ci := 10) rfl (by decide) tyX10 tyX10_ok nmX10 rfl (by decide +kernel) lf_X10_159 dX10_takesOne_22 rfl W.1 rfl (by rfl) (Nat.le_of_ble_eq_true rfl) rfl ?_
    refine J_iload_n (pc1 := 26) rfl (i := 2) rfl dX10_takesOne_25 rfl ?_
    exact J_iret rfl (nar_bC _) dX10_takesOne_26 (Nat.le_refl _) (Nat.le_refl _) (by first | exact ⟨rfl, i + 1, ⟨(pu_self _ _ _), ((pu_ne _ _ (ne_IO W.2.1 W.1)).trans W.2.1), ((pu_ne _ _ (ne_IO W.2.2.1 W.1)).trans W.2.2.1), ((pu_ne _ _ (ne_IO W.2.2.2.1 W.1)).trans W.2.2.2.1), ((pu_ne _ _ (ne_IO W.2.2.2.2.1 W.1)).trans W.2.2.2.2.1), ((pu_ne _ _ (ne_IO W.2.2.2.2.2.1 W.1)).trans W.2.2.2.2.2.1), ((pu_ne _ _ (ne_IO W.2.2.2.2.2.2.1 W.1)).trans W.2.2.2.2.2.2.1), ((pu_ne _ _ (ne_IO W.2.2.2.2.2.2.2 W.1)).trans W.2.2.2.2.2.2.2)⟩, fun x h0 h1 h2 h3 h4 h5 h6 h7 => (pu_ne _ _ h0), fun _ => rfl, fun z => absurd (bC_1 (P := i < L ∧ c ≤ tx (i : Int) ∧ tx (i : Int) ≤ c) (by assumption)) (fun q => z ⟨q.1, by omega⟩)⟩ | exact ⟨rfl, i, by rw [show (i : Int) = (i : Int) + 0 by omega]; exact ⟨(pu_self _ _ _), ((pu_ne _ _ (ne_IO W.2.1 W.1)).trans W.2.1), ((pu_ne _ _ (ne_IO W.2.2.1 W.1)).trans W.2.2.1), ((pu_ne _ _ (ne_IO W.2.2.2.1 W.1)).trans W.2.2.2.1), ((pu_ne _ _ (ne_IO W.2.2.2.2.1 W.1)).trans W.2.2.2.2.1), ((pu_ne _ _ (ne_IO W.2.2.2.2.2.1 W.1)).trans W.2.2.2.2.2.1), ((pu_ne _ _ (ne_IO W.2.2.2.2.2.2.1 W.1)).trans W.2.2.2.2.2.2.1), ((pu_ne _ _ (ne_IO W.2.2.2.2.2.2.2 W.1)).trans W.2.2.2.2.2.2.2)⟩, fun x h0 h1 h2 h3 h4 h5 h6 h7 => (pu_ne _ _ h0), fun z => absurd (bC_0 (P := i < L ∧ c ≤ tx (i : Int) ∧ tx (i : Int) ≤ c) (by assumption)) (fun q => q ⟨z.1, by omega, by omega⟩), fun _ => rfl⟩)
set_option maxHeartbeats 1000000 in
set_option maxRecDepth 20000 in
theorem c_X10_readsBid {S : pS} {B : Nat → Nat} {f hs sl sv ti tx to : Int → Int} {n ik kr ks nu rd : Int} {L i : Nat} (W : MW S B f hs sl sv ti tx to n ik kr ks (L : Int) (i : Int) nu rd) (hL : L ≤ 60) (hi : i ≤ L) (htx : ∀ k : Int, 0 ≤ tx k ∧ tx k ≤ 255) : Ct yX10_readsBid cX10_readsBid 1 (Option.some FieldType.boolean) 2 0 0 [.ref (B 0)] S (kIS (bC (¬ bdN tx L i = 0)) (fun T => ∃ (i2 : Nat) (nu2 : Int), MW T B f hs sl sv ti tx to n ik kr ks (L : Int) (i2 : Int) nu2 rd ∧ frM S T B ∧ i2 = i + bdN tx L i ∧ (¬ bdN tx L i = 0 → nu2 = bdV tx L i))) := by
  have hbc := bdN_c tx L i
  have ht := htx (i : Int)
  have ht2 := htx ((i + 1 : Nat) : Int)
  refine Ct.ofJ (by decide +kernel) (Nat.le_of_ble_eq_true rfl) ?_
  refine J_L (L1 := [some (.ref (B 0))]) rfl ?_
  refine J_aload_n (pc1 := 1) rfl (i := 0) rfl dX10_readsBid_0 rfl ?_
  refine J_bipush (pc1 := 3) (by decide) dX10_readsBid_1 rfl ?_
  refine J_bipush (pc1 := 5) (by decide) dX10_readsBid_3 rfl ?_
  refine J_callVI (pc1 := 8) (As := [.int (iI 48), .int (iI 57)]) gv_X10_162 yv_X10_isHere rfl (c_X10_isHere ⟨W.1, W.2.1, W.2.2.1, W.2.2.2.1, W.2.2.2.2.1, W.2.2.2.2.2.1, W.2.2.2.2.2.2.1, W.2.2.2.2.2.2.2⟩ hL (by omega) htx (lo := 48) (hi9 := 57) (by omega) (by omega)) dX10_readsBid_5 rfl W.1 rfl rfl (by omega) (by decide) (by omega) (by omega) (Nat.le_of_ble_eq_true rfl) ?_
  refine J_if_ne (pc1 := 11) (tgt := 13) (bC_lo _) (bC_hi _) dX10_readsBid_8 rfl rfl (fun hc1 => ?_) (fun hc1 => ?_)
  · have h13 := bC_1 (P := i < L ∧ 48 ≤ tx (i : Int) ∧ tx (i : Int) ≤ 57) (by assumption)
    refine J_aload_n (pc1 := 14) rfl (i := 0) rfl dX10_readsBid_13 rfl ?_
    refine J_aload_n (pc1 := 15) rfl (i := 0) rfl dX10_readsBid_14 rfl ?_
    refine J_get (pc1 := 18) (j := 9) inUX10 (ci := 10) rfl (by decide) lf_X10_25 dX10_readsBid_15 rfl W.1 rfl ?_
    refine J_aload_n (pc1 := 19) rfl (i := 0) rfl dX10_readsBid_18 rfl ?_
    refine J_get (pc1 := 22) (j := 11) inUX10 (ci := 10) rfl (by decide) lf_X10_159 dX10_readsBid_19 rfl W.1 rfl ?_
    refine J_iald (pc1 := 23) dX10_readsBid_22 rfl W.2.2.2.2.2.2.1 (by omega) (by omega) (by omega) ?_
    refine J_bipush (pc1 := 25) (by decide) dX10_readsBid_23 rfl ?_
    refine J_isub (pc1 := 26) dX10_readsBid_25 rfl ?_
    refine J_put (pc1 := 29) (ty := .int) (j := 12) (fs1 := [.ref (B 1), .ref (B 2), .int (iI n), .ref (B 3), .ref (B 4), .ref (B 5), .int (iI ik), .int (iI kr), .int (iI ks), .ref (B 6), .int (iI (L : Int)), .int (iI (i : Int)), .int (iI ((tx (i : Int)) - 48)), .ref (B 7), .int (iI rd)]) inUX10 (ci := 10) rfl (by decide) tyX10 tyX10_ok nmX10 rfl (by decide +kernel) lf_X10_165 dX10_readsBid_26 rfl W.1 rfl (by rfl) (Nat.le_of_ble_eq_true rfl) rfl ?_
    refine J_aload_n (pc1 := 30) rfl (i := 0) rfl dX10_readsBid_29 rfl ?_
    refine J_dup (pc1 := 31) rfl dX10_readsBid_30 rfl ?_
    refine J_get (pc1 := 34) (j := 11) inUX10 (ci := 10) rfl (by decide) lf_X10_159 dX10_readsBid_31 rfl (pu_self _ _ _) rfl ?_
    refine J_iconst (pc1 := 35) dX10_readsBid_34 rfl ?_
    refine J_iadd (pc1 := 36) dX10_readsBid_35 rfl ?_
    refine J_put (pc1 := 39) (ty := .int) (j := 11) (fs1 := [.ref (B 1), .ref (B 2), .int (iI n), .ref (B 3), .ref (B 4), .ref (B 5), .int (iI ik), .int (iI kr), .int (iI ks), .ref (B 6), .int (iI (L : Int)), .int (iI ((i : Int) + 1)), .int (iI ((tx (i : Int)) - 48)), .ref (B 7), .int (iI rd)]) inUX10 (ci := 10) rfl (by decide) tyX10 tyX10_ok nmX10 rfl (by decide +kernel) lf_X10_159 dX10_readsBid_36 rfl (pu_self _ _ _) rfl (by rfl) (Nat.le_of_ble_eq_true rfl) rfl ?_
    rw [pu_pu]
    have hWa : MW (pu S (B 0) (oO 10 [.ref (B 1), .ref (B 2), .int (iI n), .ref (B 3), .ref (B 4), .ref (B 5), .int (iI ik), .int (iI kr), .int (iI ks), .ref (B 6), .int (iI (L : Int)), .int (iI ((i : Int) + 1)), .int (iI ((tx (i : Int)) - 48)), .ref (B 7), .int (iI rd)])) B f hs sl sv ti tx to n ik kr ks (L : Int) ((i + 1 : Nat) : Int) (tx (i : Int) - 48) rd := by rw [show ((i + 1 : Nat) : Int) = (i : Int) + 1 by omega]; exact ⟨(pu_self _ _ _), ((pu_ne _ _ (ne_IO W.2.1 W.1)).trans W.2.1), ((pu_ne _ _ (ne_IO W.2.2.1 W.1)).trans W.2.2.1), ((pu_ne _ _ (ne_IO W.2.2.2.1 W.1)).trans W.2.2.2.1), ((pu_ne _ _ (ne_IO W.2.2.2.2.1 W.1)).trans W.2.2.2.2.1), ((pu_ne _ _ (ne_IO W.2.2.2.2.2.1 W.1)).trans W.2.2.2.2.2.1), ((pu_ne _ _ (ne_IO W.2.2.2.2.2.2.1 W.1)).trans W.2.2.2.2.2.2.1), ((pu_ne _ _ (ne_IO W.2.2.2.2.2.2.2 W.1)).trans W.2.2.2.2.2.2.2)⟩
    have hra : frM S (pu S (B 0) (oO 10 [.ref (B 1), .ref (B 2), .int (iI n), .ref (B 3), .ref (B 4), .ref (B 5), .int (iI ik), .int (iI kr), .int (iI ks), .ref (B 6), .int (iI (L : Int)), .int (iI ((i : Int) + 1)), .int (iI ((tx (i : Int)) - 48)), .ref (B 7), .int (iI rd)])) B := fun x h0 h1 h2 h3 h4 h5 h6 h7 => (pu_ne _ _ h0)
    generalize (pu S (B 0) (oO 10 [.ref (B 1), .ref (B 2), .int (iI n), .ref (B 3), .ref (B 4), .ref (B 5), .int (iI ik), .int (iI kr), .int (iI ks), .ref (B 6), .int (iI (L : Int)), .int (iI ((i : Int) + 1)), .int (iI ((tx (i : Int)) - 48)), .ref (B 7), .int (iI rd)])) = Ta at hWa hra ⊢
    refine J_aload_n (pc1 := 40) rfl (i := 0) rfl dX10_readsBid_39 rfl ?_
    refine J_get (pc1 := 43) (j := 12) inUX10 (ci := 10) rfl (by decide) lf_X10_165 dX10_readsBid_40 rfl hWa.1 rfl ?_
    refine J_iconst (pc1 := 44) dX10_readsBid_43 rfl ?_
    refine J_icmp_ne (pc1 := 47) (tgt := 87) (by omega) (by omega) (by decide) (by decide) dX10_readsBid_44 rfl rfl (fun hc2 => ?_) (fun hc2 => ?_)
    · skip
      refine J_iconst (pc1 := 88) dX10_readsBid_87 rfl ?_
      exact J_iret rfl rfl dX10_readsBid_88 (Nat.le_refl _) (Nat.le_refl _) (⟨by rw [bC_t (P := ¬ bdN tx L i = 0) (by omega)], i + 1, (tx (i : Int) - 48), (by first | exact ⟨hWa.1, hWa.2.1, hWa.2.2.1, hWa.2.2.2.1, hWa.2.2.2.2.1, hWa.2.2.2.2.2.1, hWa.2.2.2.2.2.2.1, hWa.2.2.2.2.2.2.2⟩ | (rw [show ((i + 1 : Nat) : Int) = ((i + 1 : Nat) : Int) by omega]; exact ⟨hWa.1, hWa.2.1, hWa.2.2.1, hWa.2.2.2.1, hWa.2.2.2.2.1, hWa.2.2.2.2.2.1, hWa.2.2.2.2.2.2.1, hWa.2.2.2.2.2.2.2⟩)), hra, by omega, fun _ => by unfold bdV; first | rw [if_pos (by omega)] | rw [if_neg (by omega)]⟩)
    · skip
      refine J_aload_n (pc1 := 48) rfl (i := 0) rfl dX10_readsBid_47 rfl ?_
      refine J_bipush (pc1 := 50) (by decide) dX10_readsBid_48 rfl ?_
      refine J_bipush (pc1 := 52) (by decide) dX10_readsBid_50 rfl ?_
      refine J_callVI (pc1 := 55) (As := [.int (iI 48), .int (iI 52)]) gv_X10_162 yv_X10_isHere rfl (c_X10_isHere ⟨hWa.1, hWa.2.1, hWa.2.2.1, hWa.2.2.2.1, hWa.2.2.2.2.1, hWa.2.2.2.2.2.1, hWa.2.2.2.2.2.2.1, hWa.2.2.2.2.2.2.2⟩ hL (by omega) htx (lo := 48) (hi9 := 52) (by omega) (by omega)) dX10_readsBid_52 rfl hWa.1 rfl rfl (by omega) (by decide) (by omega) (by omega) (Nat.le_of_ble_eq_true rfl) ?_
      refine J_if_eq (pc1 := 58) (tgt := 87) (bC_lo _) (bC_hi _) dX10_readsBid_55 rfl rfl (fun hc3 => ?_) (fun hc3 => ?_)
      · have h87 := bC_0 (P := (i + 1 : Nat) < L ∧ 48 ≤ tx ((i + 1 : Nat) : Int) ∧ tx ((i + 1 : Nat) : Int) ≤ 52) (by assumption)
        refine J_iconst (pc1 := 88) dX10_readsBid_87 rfl ?_
        exact J_iret rfl rfl dX10_readsBid_88 (Nat.le_refl _) (Nat.le_refl _) (⟨by rw [bC_t (P := ¬ bdN tx L i = 0) (by omega)], i + 1, (tx (i : Int) - 48), (by first | exact ⟨hWa.1, hWa.2.1, hWa.2.2.1, hWa.2.2.2.1, hWa.2.2.2.2.1, hWa.2.2.2.2.2.1, hWa.2.2.2.2.2.2.1, hWa.2.2.2.2.2.2.2⟩ | (rw [show ((i + 1 : Nat) : Int) = ((i + 1 : Nat) : Int) by omega]; exact ⟨hWa.1, hWa.2.1, hWa.2.2.1, hWa.2.2.2.1, hWa.2.2.2.2.1, hWa.2.2.2.2.2.1, hWa.2.2.2.2.2.2.1, hWa.2.2.2.2.2.2.2⟩)), hra, by omega, fun _ => by unfold bdV; first | rw [if_pos (by omega)] | rw [if_neg (by omega)]⟩)
      · have h58 := bC_1 (P := (i + 1 : Nat) < L ∧ 48 ≤ tx ((i + 1 : Nat) : Int) ∧ tx ((i + 1 : Nat) : Int) ≤ 52) (by assumption)
        refine J_aload_n (pc1 := 59) rfl (i := 0) rfl dX10_readsBid_58 rfl ?_
        refine J_bipush (pc1 := 61) (by decide) dX10_readsBid_59 rfl ?_
        refine J_aload_n (pc1 := 62) rfl (i := 0) rfl dX10_readsBid_61 rfl ?_
        refine J_get (pc1 := 65) (j := 9) inUX10 (ci := 10) rfl (by decide) lf_X10_25 dX10_readsBid_62 rfl hWa.1 rfl ?_
        refine J_aload_n (pc1 := 66) rfl (i := 0) rfl dX10_readsBid_65 rfl ?_
        refine J_get (pc1 := 69) (j := 11) inUX10 (ci := 10) rfl (by decide) lf_X10_159 dX10_readsBid_66 rfl hWa.1 rfl ?_
        refine J_iald (pc1 := 70) dX10_readsBid_69 rfl hWa.2.2.2.2.2.2.1 (by omega) (by omega) (by omega) ?_
        refine J_iadd (pc1 := 71) dX10_readsBid_70 rfl ?_
        refine J_bipush (pc1 := 73) (by decide) dX10_readsBid_71 rfl ?_
        refine J_isub (pc1 := 74) dX10_readsBid_73 rfl ?_
        refine J_put (pc1 := 77) (ty := .int) (j := 12) (fs1 := [.ref (B 1), .ref (B 2), .int (iI n), .ref (B 3), .ref (B 4), .ref (B 5), .int (iI ik), .int (iI kr), .int (iI ks), .ref (B 6), .int (iI (L : Int)), .int (iI ((i + 1 : Nat) : Int)), .int (iI ((10 + (tx ((i + 1 : Nat) : Int))) - 48)), .ref (B 7), .int (iI rd)]) inUX10 (ci := 10) rfl (by decide) tyX10 tyX10_ok nmX10 rfl (by decide +kernel) lf_X10_165 dX10_readsBid_74 rfl hWa.1 rfl (by rfl) (Nat.le_of_ble_eq_true rfl) rfl ?_
        refine J_aload_n (pc1 := 78) rfl (i := 0) rfl dX10_readsBid_77 rfl ?_
        refine J_dup (pc1 := 79) rfl dX10_readsBid_78 rfl ?_
        refine J_get (pc1 := 82) (j := 11) inUX10 (ci := 10) rfl (by decide) lf_X10_159 dX10_readsBid_79 rfl (pu_self _ _ _) rfl ?_
        refine J_iconst (pc1 := 83) dX10_readsBid_82 rfl ?_
        refine J_iadd (pc1 := 84) dX10_readsBid_83 rfl ?_
        refine J_put (pc1 := 87) (ty := .int) (j := 11) (fs1 := [.ref (B 1), .ref (B 2), .int (iI n), .ref (B 3), .ref (B 4), .ref (B 5), .int (iI ik), .int (iI kr), .int (iI ks), .ref (B 6), .int (iI (L : Int)), .int (iI (((i + 1 : Nat) : Int) + 1)), .int (iI ((10 + (tx ((i + 1 : Nat) : Int))) - 48)), .ref (B 7), .int (iI rd)]) inUX10 (ci := 10) rfl (by decide) tyX10 tyX10_ok nmX10 rfl (by decide +kernel) lf_X10_159 dX10_readsBid_84 rfl (pu_self _ _ _) rfl (by rfl) (Nat.le_of_ble_eq_true rfl) rfl ?_
        rw [pu_pu]
        skip
        refine J_iconst (pc1 := 88) dX10_readsBid_87 rfl ?_
        exact J_iret rfl rfl dX10_readsBid_88 (Nat.le_refl _) (Nat.le_refl _) (⟨by rw [bC_t (P := ¬ bdN tx L i = 0) (by omega)], i + 2, ((10 + (tx ((i + 1 : Nat) : Int))) - 48), (by first | exact ⟨(pu_self _ _ _), ((pu_ne _ _ (ne_IO hWa.2.1 hWa.1)).trans hWa.2.1), ((pu_ne _ _ (ne_IO hWa.2.2.1 hWa.1)).trans hWa.2.2.1), ((pu_ne _ _ (ne_IO hWa.2.2.2.1 hWa.1)).trans hWa.2.2.2.1), ((pu_ne _ _ (ne_IO hWa.2.2.2.2.1 hWa.1)).trans hWa.2.2.2.2.1), ((pu_ne _ _ (ne_IO hWa.2.2.2.2.2.1 hWa.1)).trans hWa.2.2.2.2.2.1), ((pu_ne _ _ (ne_IO hWa.2.2.2.2.2.2.1 hWa.1)).trans hWa.2.2.2.2.2.2.1), ((pu_ne _ _ (ne_IO hWa.2.2.2.2.2.2.2 hWa.1)).trans hWa.2.2.2.2.2.2.2)⟩ | (rw [show ((i + 2 : Nat) : Int) = (((i + 1 : Nat) : Int) + 1) by omega]; exact ⟨(pu_self _ _ _), ((pu_ne _ _ (ne_IO hWa.2.1 hWa.1)).trans hWa.2.1), ((pu_ne _ _ (ne_IO hWa.2.2.1 hWa.1)).trans hWa.2.2.1), ((pu_ne _ _ (ne_IO hWa.2.2.2.1 hWa.1)).trans hWa.2.2.2.1), ((pu_ne _ _ (ne_IO hWa.2.2.2.2.1 hWa.1)).trans hWa.2.2.2.2.1), ((pu_ne _ _ (ne_IO hWa.2.2.2.2.2.1 hWa.1)).trans hWa.2.2.2.2.2.1), ((pu_ne _ _ (ne_IO hWa.2.2.2.2.2.2.1 hWa.1)).trans hWa.2.2.2.2.2.2.1), ((pu_ne _ _ (ne_IO hWa.2.2.2.2.2.2.2 hWa.1)).trans hWa.2.2.2.2.2.2.2)⟩)), frM.tr (hra) (fun x h0 h1 h2 h3 h4 h5 h6 h7 => (pu_ne _ _ h0)), by omega, fun _ => by unfold bdV; first | rw [if_pos (by omega)] | rw [if_neg (by omega)]⟩)
  · have hz0 : bdN tx L i = 0 := by have := bC_0 (P := i < L ∧ 48 ≤ tx (i : Int) ∧ tx (i : Int) ≤ 57) (by assumption); omega
    refine J_iconst (pc1 := 12) dX10_readsBid_11 rfl ?_
    exact J_iret rfl rfl dX10_readsBid_12 (Nat.le_refl _) (Nat.le_refl _) (⟨by rw [bC_f (P := ¬ bdN tx L i = 0) (fun z => z hz0)], i, nu, W, frM.rf, by omega, fun z => absurd hz0 z⟩)
set_option maxHeartbeats 1000000 in
set_option maxRecDepth 20000 in
theorem c_X10_readsRound {S : pS} {B : Nat → Nat} {f hs sl sv ti tx to : Int → Int} {n ik kr ks nu rd : Int} {L i : Nat} (W : MW S B f hs sl sv ti tx to n ik kr ks (L : Int) (i : Int) nu rd) (hL : L ≤ 60) (hi : i ≤ L) (htx : ∀ k : Int, 0 ≤ tx k ∧ tx k ≤ 255) (h0 : 0 ≤ rd) (h4 : 4 * rd ≤ i) : Ct yX10_readsRound cX10_readsRound 1 (Option.some FieldType.boolean) 3 0 0 [.ref (B 0)] S (kIS (bC (okRd tx L i)) (fun T => ∃ (i2 : Nat) (to2 : Int → Int) (nu2 rd2 : Int), MW T B f hs sl sv ti tx to2 n ik kr ks (L : Int) (i2 : Int) nu2 rd2 ∧ frM S T B ∧ (okRd tx L i → i2 = eR tx L i ∧ rd2 = rd + 1 ∧ to2 = uZ (uZ to (2 * rd) (v1R tx L i)) (2 * rd + 1) (v2R tx L i)) ∧ (¬ okRd tx L i → i2 = fR tx L i))) := by
  refine Ct.ofJ (by decide +kernel) (Nat.le_of_ble_eq_true rfl) ?_
  refine J_L (L1 := [some (.ref (B 0))]) rfl ?_
  refine J_aload_n (pc1 := 1) rfl (i := 0) rfl dX10_readsRound_0 rfl ?_
  refine J_callVIs (pc1 := 4) (As := []) gv_X10_168 yv_X10_readsBid rfl (c_X10_readsBid ⟨W.1, W.2.1, W.2.2.1, W.2.2.2.1, W.2.2.2.2.1, W.2.2.2.2.2.1, W.2.2.2.2.2.2.1, W.2.2.2.2.2.2.2⟩ hL (by omega) htx) dX10_readsRound_1 rfl W.1 rfl rfl (by omega) (by decide) (by omega) (by omega) (Nat.le_of_ble_eq_true rfl) (fun T1 hT1 => ?_)
  obtain ⟨i1, nu1, W1, r1, hi1, hv1⟩ := hT1
  refine J_if_ne (pc1 := 7) (tgt := 9) (bC_lo _) (bC_hi _) dX10_readsRound_4 rfl rfl (fun hc1 => ?_) (fun hc1 => ?_)
  · have hb1 : ¬ bdN tx L i = 0 := bC_1 (P := ¬ bdN tx L i = 0) (by assumption)
    obtain ⟨z1, z2, z3, z4, z5⟩ := bd_Bd hb1
    obtain rfl : i1 = e1R tx L i := hi1
    obtain rfl : nu1 = v1R tx L i := hv1 hb1
    have ze : e1R tx L i ≤ L := z2
    refine J_aload_n (pc1 := 10) rfl (i := 0) rfl dX10_readsRound_9 rfl ?_
    refine J_get (pc1 := 13) (j := 13) inUX10 (ci := 10) rfl (by decide) lf_X10_28 dX10_readsRound_10 rfl W1.1 rfl ?_
    refine J_iconst (pc1 := 14) dX10_readsRound_13 rfl ?_
    refine J_aload_n (pc1 := 15) rfl (i := 0) rfl dX10_readsRound_14 rfl ?_
    refine J_get (pc1 := 18) (j := 14) inUX10 (ci := 10) rfl (by decide) lf_X10_171 dX10_readsRound_15 rfl W1.1 rfl ?_
    refine J_imul (pc1 := 19) dX10_readsRound_18 rfl ?_
    refine J_aload_n (pc1 := 20) rfl (i := 0) rfl dX10_readsRound_19 rfl ?_
    refine J_get (pc1 := 23) (j := 12) inUX10 (ci := 10) rfl (by decide) lf_X10_165 dX10_readsRound_20 rfl W1.1 rfl ?_
    refine J_iast (pc1 := 24) dX10_readsRound_23 rfl W1.2.2.2.2.2.2.2 (by omega) (by omega) (by omega) ?_
    skip
    refine J_aload_n (pc1 := 25) rfl (i := 0) rfl dX10_readsRound_24 rfl ?_
    refine J_bipush (pc1 := 27) (by decide) dX10_readsRound_25 rfl ?_
    refine J_callVIs (pc1 := 30) (As := [.int (iI 58)]) gv_X10_174 yv_X10_takesOne rfl (c_X10_takesOne ⟨((pu_ne _ _ (ne_OI W1.1 W1.2.2.2.2.2.2.2)).trans W1.1), ((pu_ne _ _ (ne_II W1.2.1 W1.2.2.2.2.2.2.2 (by decide))).trans W1.2.1), ((pu_ne _ _ (ne_II W1.2.2.1 W1.2.2.2.2.2.2.2 (by decide))).trans W1.2.2.1), ((pu_ne _ _ (ne_II W1.2.2.2.1 W1.2.2.2.2.2.2.2 (by decide))).trans W1.2.2.2.1), ((pu_ne _ _ (ne_II W1.2.2.2.2.1 W1.2.2.2.2.2.2.2 (by decide))).trans W1.2.2.2.2.1), ((pu_ne _ _ (ne_II W1.2.2.2.2.2.1 W1.2.2.2.2.2.2.2 (by decide))).trans W1.2.2.2.2.2.1), ((pu_ne _ _ (ne_II W1.2.2.2.2.2.2.1 W1.2.2.2.2.2.2.2 (by decide))).trans W1.2.2.2.2.2.2.1), (pu_self _ _ _)⟩ hL (by omega) htx (c := 58) (by decide)) dX10_readsRound_27 rfl ((pu_ne _ _ (ne_OI W1.1 W1.2.2.2.2.2.2.2)).trans W1.1) rfl rfl (by omega) (by decide) (by omega) (by omega) (Nat.le_of_ble_eq_true rfl) (fun T2 hT2 => ?_)
    obtain ⟨i2, W2, r2, ht2, hu2⟩ := hT2
    refine J_if_eq (pc1 := 33) (tgt := 40) (bC_lo _) (bC_hi _) dX10_readsRound_30 rfl rfl (fun hc2 => ?_) (fun hc2 => ?_)
    · refine J_iconst (pc1 := 41) dX10_readsRound_40 rfl ?_
      exact J_iret rfl rfl dX10_readsRound_41 (Nat.le_refl _) (Nat.le_refl _) (by have h30 := bC_0 (P := (e1R tx L i : Nat) < L ∧ 58 ≤ tx ((e1R tx L i : Nat) : Int) ∧ tx ((e1R tx L i : Nat) : Int) ≤ 58) (by assumption); have n58 : ¬ (e1R tx L i < L ∧ tx (e1R tx L i) = 58) := fun q => h30 ⟨q.1, by omega, by omega⟩; have no : ¬ okRd tx L i := fun z => n58 z.2.1; exact ⟨by rw [bC_f no], i2, _, _, rd, ⟨W2.1, W2.2.1, W2.2.2.1, W2.2.2.2.1, W2.2.2.2.2.1, W2.2.2.2.2.2.1, W2.2.2.2.2.2.2.1, W2.2.2.2.2.2.2.2⟩, frM.tr (frM.tr (r1) (fun x h0 h1 h2 h3 h4 h5 h6 h7 => (pu_ne _ _ h7))) (r2), fun z => absurd z no, fun _ => by unfold fR; rw [if_neg (fun z => n58 ⟨z.1, z.2.1⟩)]; exact hu2 n58⟩)
    · have h33 := bC_1 (P := (e1R tx L i : Nat) < L ∧ 58 ≤ tx ((e1R tx L i : Nat) : Int) ∧ tx ((e1R tx L i : Nat) : Int) ≤ 58) (by assumption)
      have q33 : e1R tx L i < L ∧ tx (e1R tx L i) = 58 := ⟨h33.1, by omega⟩
      obtain rfl : i2 = e1R tx L i + 1 := ht2 q33
      refine J_aload_n (pc1 := 34) rfl (i := 0) rfl dX10_readsRound_33 rfl ?_
      refine J_callVIs (pc1 := 37) (As := []) gv_X10_168 yv_X10_readsBid rfl (c_X10_readsBid ⟨W2.1, W2.2.1, W2.2.2.1, W2.2.2.2.1, W2.2.2.2.2.1, W2.2.2.2.2.2.1, W2.2.2.2.2.2.2.1, W2.2.2.2.2.2.2.2⟩ hL (by omega) htx) dX10_readsRound_34 rfl W2.1 rfl rfl (by omega) (by decide) (by omega) (by omega) (Nat.le_of_ble_eq_true rfl) (fun T3 hT3 => ?_)
      obtain ⟨i3, nu3, W3, r3, hi3, hv3⟩ := hT3
      refine J_if_ne (pc1 := 40) (tgt := 42) (bC_lo _) (bC_hi _) dX10_readsRound_37 rfl rfl (fun hc3 => ?_) (fun hc3 => ?_)
      · have hb2 : ¬ bdN tx L (e1R tx L i + 1) = 0 := bC_1 (P := ¬ bdN tx L (e1R tx L i + 1) = 0) (by assumption)
        obtain rfl : i3 = eR tx L i := hi3
        obtain rfl : nu3 = v2R tx L i := hv3 hb2
        refine J_aload_n (pc1 := 43) rfl (i := 0) rfl dX10_readsRound_42 rfl ?_
        refine J_get (pc1 := 46) (j := 13) inUX10 (ci := 10) rfl (by decide) lf_X10_28 dX10_readsRound_43 rfl W3.1 rfl ?_
        refine J_iconst (pc1 := 47) dX10_readsRound_46 rfl ?_
        refine J_aload_n (pc1 := 48) rfl (i := 0) rfl dX10_readsRound_47 rfl ?_
        refine J_get (pc1 := 51) (j := 14) inUX10 (ci := 10) rfl (by decide) lf_X10_171 dX10_readsRound_48 rfl W3.1 rfl ?_
        refine J_imul (pc1 := 52) dX10_readsRound_51 rfl ?_
        refine J_iconst (pc1 := 53) dX10_readsRound_52 rfl ?_
        refine J_iadd (pc1 := 54) dX10_readsRound_53 rfl ?_
        refine J_aload_n (pc1 := 55) rfl (i := 0) rfl dX10_readsRound_54 rfl ?_
        refine J_get (pc1 := 58) (j := 12) inUX10 (ci := 10) rfl (by decide) lf_X10_165 dX10_readsRound_55 rfl W3.1 rfl ?_
        refine J_iast (pc1 := 59) dX10_readsRound_58 rfl W3.2.2.2.2.2.2.2 (by omega) (by omega) (by omega) ?_
        refine J_aload_n (pc1 := 60) rfl (i := 0) rfl dX10_readsRound_59 rfl ?_
        refine J_dup (pc1 := 61) rfl dX10_readsRound_60 rfl ?_
        refine J_get (pc1 := 64) (j := 14) inUX10 (ci := 10) rfl (by decide) lf_X10_171 dX10_readsRound_61 rfl ((pu_ne _ _ (ne_OI W3.1 W3.2.2.2.2.2.2.2)).trans W3.1) rfl ?_
        refine J_iconst (pc1 := 65) dX10_readsRound_64 rfl ?_
        refine J_iadd (pc1 := 66) dX10_readsRound_65 rfl ?_
        refine J_put (pc1 := 69) (ty := .int) (j := 14) (fs1 := [.ref (B 1), .ref (B 2), .int (iI n), .ref (B 3), .ref (B 4), .ref (B 5), .int (iI ik), .int (iI kr), .int (iI ks), .ref (B 6), .int (iI (L : Int)), .int (iI ((eR tx L i : Nat) : Int)), .int (iI (v2R tx L i)), .ref (B 7), .int (iI (rd + 1))]) inUX10 (ci := 10) rfl (by decide) tyX10 tyX10_ok nmX10 rfl (by decide +kernel) lf_X10_171 dX10_readsRound_66 rfl ((pu_ne _ _ (ne_OI W3.1 W3.2.2.2.2.2.2.2)).trans W3.1) rfl (by rfl) (Nat.le_of_ble_eq_true rfl) rfl ?_
        refine J_iconst (pc1 := 70) dX10_readsRound_69 rfl ?_
        exact J_iret rfl rfl dX10_readsRound_70 (Nat.le_refl _) (Nat.le_refl _) (by have ok : okRd tx L i := ⟨hb1, q33, hb2⟩; exact ⟨by rw [bC_t ok], eR tx L i, _, _, rd + 1, ⟨(pu_self _ _ _), ((pu_ne _ _ (ne_IO W3.2.1 W3.1)).trans ((pu_ne _ _ (ne_II W3.2.1 W3.2.2.2.2.2.2.2 (by decide))).trans W3.2.1)), ((pu_ne _ _ (ne_IO W3.2.2.1 W3.1)).trans ((pu_ne _ _ (ne_II W3.2.2.1 W3.2.2.2.2.2.2.2 (by decide))).trans W3.2.2.1)), ((pu_ne _ _ (ne_IO W3.2.2.2.1 W3.1)).trans ((pu_ne _ _ (ne_II W3.2.2.2.1 W3.2.2.2.2.2.2.2 (by decide))).trans W3.2.2.2.1)), ((pu_ne _ _ (ne_IO W3.2.2.2.2.1 W3.1)).trans ((pu_ne _ _ (ne_II W3.2.2.2.2.1 W3.2.2.2.2.2.2.2 (by decide))).trans W3.2.2.2.2.1)), ((pu_ne _ _ (ne_IO W3.2.2.2.2.2.1 W3.1)).trans ((pu_ne _ _ (ne_II W3.2.2.2.2.2.1 W3.2.2.2.2.2.2.2 (by decide))).trans W3.2.2.2.2.2.1)), ((pu_ne _ _ (ne_IO W3.2.2.2.2.2.2.1 W3.1)).trans ((pu_ne _ _ (ne_II W3.2.2.2.2.2.2.1 W3.2.2.2.2.2.2.2 (by decide))).trans W3.2.2.2.2.2.2.1)), ((pu_ne _ _ (ne_IO W3.2.2.2.2.2.2.2 W3.1)).trans (pu_self _ _ _))⟩, frM.tr (frM.tr (frM.tr (frM.tr (r1) (fun x h0 h1 h2 h3 h4 h5 h6 h7 => (pu_ne _ _ h7))) (r2)) (r3)) (fun x h0 h1 h2 h3 h4 h5 h6 h7 => ((pu_ne _ _ h0).trans (pu_ne _ _ h7))), fun _ => ⟨rfl, rfl, rfl⟩, fun z => absurd ok z⟩)
      · refine J_iconst (pc1 := 41) dX10_readsRound_40 rfl ?_
        exact J_iret rfl rfl dX10_readsRound_41 (Nat.le_refl _) (Nat.le_refl _) (by have hb2 : bdN tx L (e1R tx L i + 1) = 0 := Decidable.not_not.mp (bC_0 (P := ¬ bdN tx L (e1R tx L i + 1) = 0) (by assumption)); have no : ¬ okRd tx L i := fun z => z.2.2 hb2; exact ⟨by rw [bC_f no], i3, _, nu3, rd, ⟨W3.1, W3.2.1, W3.2.2.1, W3.2.2.2.1, W3.2.2.2.2.1, W3.2.2.2.2.2.1, W3.2.2.2.2.2.2.1, W3.2.2.2.2.2.2.2⟩, frM.tr (frM.tr (frM.tr (r1) (fun x h0 h1 h2 h3 h4 h5 h6 h7 => (pu_ne _ _ h7))) (r2)) (r3), fun z => absurd z no, fun _ => by rw [hi3]; unfold fR; rw [if_pos ⟨q33.1, q33.2, hb1⟩, hb2]⟩)
  · refine J_iconst (pc1 := 8) dX10_readsRound_7 rfl ?_
    exact J_iret rfl rfl dX10_readsRound_8 (Nat.le_refl _) (Nat.le_refl _) (by have hb0 : bdN tx L i = 0 := Decidable.not_not.mp (bC_0 (P := ¬ bdN tx L i = 0) (by assumption)); have no : ¬ okRd tx L i := fun z => z.1 hb0; exact ⟨by rw [bC_f no], i1, to, nu1, rd, ⟨W1.1, W1.2.1, W1.2.2.1, W1.2.2.2.1, W1.2.2.2.2.1, W1.2.2.2.2.2.1, W1.2.2.2.2.2.2.1, W1.2.2.2.2.2.2.2⟩, r1, fun z => absurd z no, fun _ => by unfold fR; rw [if_neg (fun z => z.2.2 hb0)]; exact hi1⟩)
set_option maxHeartbeats 1000000 in
set_option maxRecDepth 20000 in
theorem ft_l {B : Nat → Nat} {f hs sl sv ti tx : Int → Int} {n ik kr ks : Int} {L : Nat} {K : Option Value → pS → Prop} (hL : L ≤ 60) (htx : ∀ k : Int, 0 ≤ tx k ∧ tx k ≤ 255) : ∀ (m : Nat) {S : pS} {to : Int → Int} {nu rd : Int} {i : Nat} (P : List (Int × Int)) (W : MW S B f hs sl sv ti tx to n ik kr ks (L : Int) (i : Int) nu rd), i ≤ L → L < i + m → rd = (P.length : Int) → 4 * (P.length : Int) ≤ i → TH to 0 P → (∀ (T : pS) (to2 : Int → Int) (nu2 rd2 : Int) (i2 : Nat), MW T B f hs sl sv ti tx to2 n ik kr ks (L : Int) (i2 : Int) nu2 rd2 → frM S T B → (pF tx L m i = -1006 → rd2 = ((P ++ pL tx L m i).length : Int) ∧ rd2 ≤ 15 ∧ TH to2 0 (P ++ pL tx L m i)) → K (some (.int (iI (pF tx L m i)))) T) → Jd yX10_fault cX10_fault 2 (Option.some FieldType.int) 4 0 0 K 0 0 S 16 [some (.ref (B 0)), none] [] := by
  intro m
  induction m with
  | zero =>
    intro S to nu rd i P W h1 h2
    omega
  | succ m ih =>
    intro S to nu rd i P W hi hm hrd h4 hT hK
    refine J_aload_n (pc1 := 17) rfl (i := 0) rfl dX10_fault_16 rfl ?_
    refine J_callVIs (pc1 := 20) (As := []) gv_X10_177 yv_X10_readsRound rfl (c_X10_readsRound ⟨W.1, W.2.1, W.2.2.1, W.2.2.2.1, W.2.2.2.2.1, W.2.2.2.2.2.1, W.2.2.2.2.2.2.1, W.2.2.2.2.2.2.2⟩ hL (by omega) htx (by omega) (by omega)) dX10_fault_17 rfl W.1 rfl rfl (by omega) (by decide) (by omega) (by omega) (Nat.le_of_ble_eq_true rfl) (fun T1 hT1 => ?_)
    obtain ⟨i1, to1, nu1, rd1, W1, r1, hok1, hno1⟩ := hT1
    refine J_if_ne (pc1 := 23) (tgt := 28) (bC_lo _) (bC_hi _) dX10_fault_20 rfl rfl (fun hc1 => ?_) (fun hc1 => ?_)
    · have ok := bC_1 (P := okRd tx L i) (by assumption)
      obtain ⟨x1, x2, x3⟩ := hok1 ok
      have ob := okRd_b ok
      subst x1
      subst x2
      subst x3
      refine J_aload_n (pc1 := 29) rfl (i := 0) rfl dX10_fault_28 rfl ?_
      refine J_bipush (pc1 := 31) (by decide) dX10_fault_29 rfl ?_
      refine J_callVIs (pc1 := 34) (As := [.int (iI 44)]) gv_X10_174 yv_X10_takesOne rfl (c_X10_takesOne ⟨W1.1, W1.2.1, W1.2.2.1, W1.2.2.2.1, W1.2.2.2.2.1, W1.2.2.2.2.2.1, W1.2.2.2.2.2.2.1, W1.2.2.2.2.2.2.2⟩ hL (by omega) htx (c := 44) (by decide)) dX10_fault_31 rfl W1.1 rfl rfl (by omega) (by decide) (by omega) (by omega) (Nat.le_of_ble_eq_true rfl) (fun T2 hT2 => ?_)
      obtain ⟨i2, W2, r2, ht2, hu2⟩ := hT2
      refine J_istore_n (pc1 := 35) (L1 := [some (.ref (B 0)), some (.int (iI (bC ((eR tx L i : Nat) < L ∧ 44 ≤ tx ((eR tx L i : Nat) : Int) ∧ tx ((eR tx L i : Nat) : Int) ≤ 44))))]) rfl (i := 1) dX10_fault_34 rfl (by decide) rfl rfl ?_
      refine J_goto (tgt := 12) dX10_fault_35 rfl ?_
      refine J_iload_n (pc1 := 13) rfl (i := 1) rfl dX10_fault_12 rfl ?_
      refine J_if_eq (pc1 := 16) (tgt := 38) (bC_lo _) (bC_hi _) dX10_fault_13 rfl rfl (fun hc2 => ?_) (fun hc2 => ?_)
      · have h44 := bC_0 (P := (eR tx L i : Nat) < L ∧ 44 ≤ tx ((eR tx L i : Nat) : Int) ∧ tx ((eR tx L i : Nat) : Int) ≤ 44) (by assumption)
        have n44 : ¬ (eR tx L i < L ∧ tx (eR tx L i) = 44) := fun q => h44 ⟨q.1, by omega, by omega⟩
        obtain rfl : i2 = eR tx L i := hu2 n44
        refine J_aload_n (pc1 := 39) rfl (i := 0) rfl dX10_fault_38 rfl ?_
        refine J_get (pc1 := 42) (j := 11) inUX10 (ci := 10) rfl (by decide) lf_X10_159 dX10_fault_39 rfl W2.1 rfl ?_
        refine J_aload_n (pc1 := 43) rfl (i := 0) rfl dX10_fault_42 rfl ?_
        refine J_get (pc1 := 46) (j := 10) inUX10 (ci := 10) rfl (by decide) lf_X10_132 dX10_fault_43 rfl W2.1 rfl ?_
        refine J_icmp_ne (pc1 := 49) (tgt := 55) (by omega) (by omega) (by omega) (by omega) dX10_fault_46 rfl rfl (fun hc3 => ?_) (fun hc3 => ?_)
        · refine J_aload_n (pc1 := 56) rfl (i := 0) rfl dX10_fault_55 rfl ?_
          refine J_get (pc1 := 59) (j := 11) inUX10 (ci := 10) rfl (by decide) lf_X10_159 dX10_fault_56 rfl W2.1 rfl ?_
          exact J_iret rfl rfl dX10_fault_59 (Nat.le_refl _) (Nat.le_refl _) (by have hel : ¬ eR tx L i = L := (by omega); have e9 : pF tx L (m + 1) i = (eR tx L i : Int) := (by rw [pF_ok ok, if_neg n44, if_neg hel]); have h := hK _ _ _ _ _ ⟨W2.1, W2.2.1, W2.2.2.1, W2.2.2.2.1, W2.2.2.2.2.1, W2.2.2.2.2.2.1, W2.2.2.2.2.2.2.1, W2.2.2.2.2.2.2.2⟩ (frM.tr (r1) (r2)) (fun q => by rw [e9] at q; omega); rw [e9] at h; exact h)
        · refine J_sipush (pc1 := 52) (by decide) dX10_fault_49 rfl ?_
          refine J_goto (tgt := 59) dX10_fault_52 rfl ?_
          exact J_iret rfl rfl dX10_fault_59 (Nat.le_refl _) (Nat.le_refl _) (by have hel : eR tx L i = L := (by omega); have e9 : pF tx L (m + 1) i = -1006 := (by rw [pF_ok ok, if_neg n44, if_pos hel]); have l9 : pL tx L (m + 1) i = [(v1R tx L i, v2R tx L i)] := (by rw [pL_ok ok, if_neg n44]); have h := hK _ _ _ _ _ ⟨W2.1, W2.2.1, W2.2.2.1, W2.2.2.2.1, W2.2.2.2.2.1, W2.2.2.2.2.2.1, W2.2.2.2.2.2.2.1, W2.2.2.2.2.2.2.2⟩ (frM.tr (r1) (r2)) (fun _ => by rw [l9, List.length_append, List.length_singleton]; exact ⟨by omega, by omega, TH_1 (r := (v1R tx L i, v2R tx L i)) hT hrd ob.2.2.2.1 ob.2.2.2.2⟩); rw [e9] at h; exact h)
      · have h44 := bC_1 (P := (eR tx L i : Nat) < L ∧ 44 ≤ tx ((eR tx L i : Nat) : Int) ∧ tx ((eR tx L i : Nat) : Int) ≤ 44) (by assumption)
        have q44 : eR tx L i < L ∧ tx (eR tx L i) = 44 := ⟨h44.1, by omega⟩
        obtain rfl : i2 = eR tx L i + 1 := ht2 q44
        refine J_sub (L1 := [some (.ref (B 0)), none]) ⟨rfl, trivial⟩ ?_
        have e9 : pF tx L (m + 1) i = pF tx L m (eR tx L i + 1) := by rw [pF_ok ok, if_pos q44]
        have l9 : P ++ pL tx L (m + 1) i = (P ++ [(v1R tx L i, v2R tx L i)]) ++ pL tx L m (eR tx L i + 1) := by rw [pL_ok ok, if_pos q44, List.append_assoc]; rfl
        rw [e9, l9] at hK
        refine ih (P ++ [(v1R tx L i, v2R tx L i)]) W2 (by omega) (by omega) ?_ ?_ (TH_1 (r := (v1R tx L i, v2R tx L i)) hT hrd ob.2.2.2.1 ob.2.2.2.2) (fun T to2 nu2 rd2 i3 W3 r3 h3 => hK T to2 nu2 rd2 i3 W3 (frM.tr (frM.tr (r1) (r2)) r3) h3)
        · rw [List.length_append, List.length_singleton]; omega
        · rw [List.length_append, List.length_singleton]; omega
    · refine J_aload_n (pc1 := 24) rfl (i := 0) rfl dX10_fault_23 rfl ?_
      refine J_get (pc1 := 27) (j := 11) inUX10 (ci := 10) rfl (by decide) lf_X10_159 dX10_fault_24 rfl W1.1 rfl ?_
      exact J_iret rfl rfl dX10_fault_27 (Nat.le_refl _) (Nat.le_refl _) (by have no := bC_0 (P := okRd tx L i) (by assumption); have h := hK _ _ _ _ _ ⟨W1.1, W1.2.1, W1.2.2.1, W1.2.2.2.1, W1.2.2.2.2.1, W1.2.2.2.2.2.1, W1.2.2.2.2.2.2.1, W1.2.2.2.2.2.2.2⟩ (r1) (fun q => by rw [pF_no no] at q; omega); rw [pF_no no, ← hno1 no] at h; exact h)
set_option maxHeartbeats 1000000 in
set_option maxRecDepth 20000 in
theorem c_X10_fault {S : pS} {B : Nat → Nat} {f hs sl sv ti tx to : Int → Int} {n ik kr ks sp nu rd : Int} {L : Nat} (W : MW S B f hs sl sv ti tx to n ik kr ks (L : Int) sp nu rd) (hL : L ≤ 60) (htx : ∀ k : Int, 0 ≤ tx k ∧ tx k ≤ 255) : Ct yX10_fault cX10_fault 2 (Option.some FieldType.int) 4 0 0 [.ref (B 0)] S (kIS (dfa tx L 0 0 0) (fun T => ∃ (to2 : Int → Int) (nu2 rd2 : Int) (i2 : Nat), MW T B f hs sl sv ti tx to2 n ik kr ks (L : Int) (i2 : Int) nu2 rd2 ∧ frM S T B ∧ (dfa tx L 0 0 0 = -1006 → rd2 = ((pL tx L (L + 1) 0).length : Int) ∧ rd2 ≤ 15 ∧ TH to2 0 (pL tx L (L + 1) 0)))) := by
  have e0 : pF tx L (L + 1) 0 = dfa tx L 0 0 0 := pF_dfa (L + 1) 0 (by omega) (by omega)
  refine Ct.ofJ (by decide +kernel) (Nat.le_of_ble_eq_true rfl) ?_
  refine J_L (L1 := [some (.ref (B 0)), none]) rfl ?_
  refine J_aload_n (pc1 := 1) rfl (i := 0) rfl dX10_fault_0 rfl ?_
  refine J_iconst (pc1 := 2) dX10_fault_1 rfl ?_
  refine J_put (pc1 := 5) (ty := .int) (j := 11) (fs1 := [.ref (B 1), .ref (B 2), .int (iI n), .ref (B 3), .ref (B 4), .ref (B 5), .int (iI ik), .int (iI kr), .int (iI ks), .ref (B 6), .int (iI (L : Int)), .int (iI 0), .int (iI nu), .ref (B 7), .int (iI rd)]) inUX10 (ci := 10) rfl (by decide) tyX10 tyX10_ok nmX10 rfl (by decide +kernel) lf_X10_159 dX10_fault_2 rfl W.1 rfl (by rfl) (Nat.le_of_ble_eq_true rfl) rfl ?_
  refine J_aload_n (pc1 := 6) rfl (i := 0) rfl dX10_fault_5 rfl ?_
  refine J_iconst (pc1 := 7) dX10_fault_6 rfl ?_
  refine J_put (pc1 := 10) (ty := .int) (j := 14) (fs1 := [.ref (B 1), .ref (B 2), .int (iI n), .ref (B 3), .ref (B 4), .ref (B 5), .int (iI ik), .int (iI kr), .int (iI ks), .ref (B 6), .int (iI (L : Int)), .int (iI 0), .int (iI nu), .ref (B 7), .int (iI 0)]) inUX10 (ci := 10) rfl (by decide) tyX10 tyX10_ok nmX10 rfl (by decide +kernel) lf_X10_171 dX10_fault_7 rfl (pu_self _ _ _) rfl (by rfl) (Nat.le_of_ble_eq_true rfl) rfl ?_
  rw [pu_pu]
  refine J_iconst (pc1 := 11) dX10_fault_10 rfl ?_
  refine J_istore_n (pc1 := 12) (L1 := [some (.ref (B 0)), some (.int (iI 1))]) rfl (i := 1) dX10_fault_11 rfl (by decide) rfl rfl ?_
  refine J_iload_n (pc1 := 13) rfl (i := 1) rfl dX10_fault_12 rfl ?_
  refine J_if_eq (pc1 := 16) (tgt := 38) (by decide) (by decide) dX10_fault_13 rfl rfl (fun hc1 => ?_) (fun hc1 => ?_)
  · exact absurd hc1 (by decide)
  · refine J_sub (L1 := [some (.ref (B 0)), none]) ⟨rfl, trivial⟩ ?_
    refine ft_l hL htx (L + 1) (i := 0) [] ⟨(pu_self _ _ _), ((pu_ne _ _ (ne_IO W.2.1 W.1)).trans W.2.1), ((pu_ne _ _ (ne_IO W.2.2.1 W.1)).trans W.2.2.1), ((pu_ne _ _ (ne_IO W.2.2.2.1 W.1)).trans W.2.2.2.1), ((pu_ne _ _ (ne_IO W.2.2.2.2.1 W.1)).trans W.2.2.2.2.1), ((pu_ne _ _ (ne_IO W.2.2.2.2.2.1 W.1)).trans W.2.2.2.2.2.1), ((pu_ne _ _ (ne_IO W.2.2.2.2.2.2.1 W.1)).trans W.2.2.2.2.2.2.1), ((pu_ne _ _ (ne_IO W.2.2.2.2.2.2.2 W.1)).trans W.2.2.2.2.2.2.2)⟩ (by omega) (by omega) rfl (by decide) trivial (fun T to2 nu2 rd2 i2 W2 r2 h2 => ?_)
    rw [e0]
    rw [e0] at h2
    exact ⟨rfl, to2, nu2, rd2, i2, W2, frM.tr (fun x h0 h1 h2 h3 h4 h5 h6 h7 => (pu_ne _ _ h0)) r2, h2⟩
