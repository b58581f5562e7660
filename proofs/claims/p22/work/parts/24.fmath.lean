/-! 24.fmath: what the law says of forced wins -/
theorem fc_excl {E ti ps : Int} (hE : 1 ≤ E) : ∀ (k m : Nat) (tw o f b b2 : Int), (b = 0 ∧ b2 = 1) ∨ (b = 1 ∧ b2 = 0) → fc E ti ps k tw o f b → fc E ti ps m (2 * E - tw) f o b2 → False := by
  intro k
  induction k with
  | zero =>
    intro m tw o f b b2 hb h h2
    have h : tw ≤ 0 := h
    cases m with
    | zero =>
      have h2 : 2 * E - tw ≤ 0 := h2
      omega
    | succ m =>
      rcases h2 with h2 | ⟨h2, -⟩ <;> omega
  | succ k ih =>
    intro m tw o f b b2 hb h h2
    cases m with
    | zero =>
      have h2 : 2 * E - tw ≤ 0 := h2
      rcases h with h | ⟨h, -⟩ <;> omega
    | succ m =>
      rcases h with h | ⟨h, hbid, hans⟩
      · rcases h2 with h2 | ⟨h2, -⟩ <;> omega
      · rcases h2 with h2 | ⟨h2, kbid, kans⟩
        · omega
        · have e1 : 2 * E - (tw - 1) = 2 * E - tw + 1 := by omega
          have e2 : 2 * E - (tw + 1) = 2 * E - tw - 1 := by omega
          rcases hb with ⟨rfl, rfl⟩ | ⟨rfl, rfl⟩
          · obtain ⟨bid, hb, g⟩ := kbid rfl
            obtain ⟨ans, ha, g1, g2⟩ := hans rfl bid hb.1 hb.2
            obtain ⟨g3, g4⟩ := g ans ha.1 ha.2
            rcases Classical.em (fst ti bid ans) with q | q
            · exact ih m (tw + 1) (o + gaE ps bid) (f - bid) 1 0 (Or.inr ⟨rfl, rfl⟩) (g1 q) (by rw [e2]; exact g3 q)
            · exact ih m (tw - 1) (o - ans) (f + gaE ps ans) 1 0 (Or.inr ⟨rfl, rfl⟩) (g2 q) (by rw [e1]; exact g4 q)
          · obtain ⟨bid, hb, g⟩ := hbid rfl
            obtain ⟨ans, ha, g1, g2⟩ := kans rfl bid hb.1 hb.2
            obtain ⟨g3, g4⟩ := g ans ha.1 ha.2
            rcases Classical.em (fst ti bid ans) with q | q
            · exact ih m (tw - 1) (o - bid) (f + gaE ps bid) 0 1 (Or.inl ⟨rfl, rfl⟩) (g3 q) (by rw [e1]; exact g1 q)
            · exact ih m (tw + 1) (o + gaE ps ans) (f - ans) 0 1 (Or.inl ⟨rfl, rfl⟩) (g4 q) (by rw [e2]; exact g2 q)
/-- the time of p; 9: none -/
noncomputable def WT (f : Int → Int) (p : Int) : Int := twT f p (moF f p)
theorem WT_b (f : Int → Int) (p : Int) : 0 ≤ WT f p ∧ WT f p ≤ 9 := twT_b f p _
theorem WT_le (f : Int → Int) (p : Int) {j : Nat} (hj : j ≤ 8) : WT f p ≤ j ↔ fc (f 0) (f 3) (f 2) j (twF f p) (moF f p) (moF f (1 - p)) (bZ (p = f 5)) := tT_le _ _ _ _ _ _ _ hj
theorem WT_ex {f : Int → Int} (ok : okF f) : ¬ (WT f 0 ≤ 8 ∧ WT f 1 ≤ 8) := by
  rintro ⟨h0, h1⟩
  have h0 := (WT_le f 0 (j := 8) (Nat.le_refl 8)).mp h0
  have h1 := (WT_le f 1 (j := 8) (Nat.le_refl 8)).mp h1
  have e1 : twF f 1 = 2 * f 0 - twF f 0 := by
    have a1 : twF f 1 = f 0 + f 4 := rfl
    have a0 : twF f 0 = f 0 - f 4 := rfl
    omega
  rw [e1] at h1
  refine fc_excl ok.1.1 8 8 _ _ _ _ _ ?_ h0 h1
  rcases ok.2.2.2.2.2.1 with q | q
  · exact Or.inr ⟨by rw [q]; rfl, by rw [q]; rfl⟩
  · exact Or.inl ⟨by rw [q]; rfl, by rw [q]; rfl⟩
theorem WT_won {f : Int → Int} {p : Int} (hp : p = 0 ∨ p = 1) (h : winF f = p) : WT f p = 0 := by
  have hb := WT_b f p
  have : WT f p ≤ (0 : Nat) := (WT_le f p (j := 0) (by decide)).mpr (by
    show twF f p ≤ 0
    have h : winE (f 0) (f 4) = p := h
    unfold winE at h
    rcases hp with rfl | rfl
    · show f 0 - f 4 ≤ 0
      split at h
      · omega
      · split at h <;> omega
    · show f 0 + f 4 ≤ 0
      split at h
      · omega
      · split at h <;> omega)
  omega
theorem tw_in {f : Int → Int} (hw : winF f = -1006) {p : Int} (hp : p = 0 ∨ p = 1) : 0 < twF f p ∧ twF f p < 2 * f 0 := by
  have h := win_o hw
  rcases hp with rfl | rfl
  · show 0 < f 0 - f 4 ∧ f 0 - f 4 < 2 * f 0
    omega
  · show 0 < f 0 + f 4 ∧ f 0 + f 4 < 2 * f 0
    omega
theorem WT_n0 {f : Int → Int} (hw : winF f = -1006) {p : Int} (hp : p = 0 ∨ p = 1) : 1 ≤ WT f p := by
  have hb := WT_b f p
  have h := tw_in hw hp
  rcases Int.lt_or_le (WT f p) 1 with q | q
  · have : fc (f 0) (f 3) (f 2) 0 (twF f p) (moF f p) (moF f (1 - p)) (bZ (p = f 5)) := (WT_le f p (j := 0) (by decide)).mp (by omega)
    have : twF f p ≤ 0 := this
    omega
  · exact q
/-- the state behind a round, as p sees it -/
theorem bh_pl {f : Int → Int} (ok : okF f) {p : Int} (hp : p = 0 ∨ p = 1) (b a : Int) : WT (plF f b a) p = tT (f 0) (f 3) (f 2) (twF f p + (if tkF f b a = p then -1 else 1)) (moF f p + (if tkF f b a = p then -(prF f b a) else gaE (f 2) (prF f b a))) (moF f (1 - p) + (if tkF f b a = p then gaE (f 2) (prF f b a) else -(prF f b a))) (bZ (¬ p = f 5)) := by
  have o5 := ok.2.2.2.2.2.1
  have hz : bZ (p = 1 - f 5) = bZ (¬ p = f 5) := bZ_c (by constructor <;> intro h <;> omega)
  rcases tkF_b ok b a with ht | ht
  · obtain ⟨p0, p1, p2, p3, p4, p5, p6, p7, p8, -⟩ := plF_at0 ht
    rw [ht]
    have m0 : moF (plF f b a) 0 = moF f 0 + -(prF f b a) := by
      show plF f b a 7 + plF f b a 1 = f 7 + f 1 + -(prF f b a)
      rw [p7, p1]; omega
    have m1 : moF (plF f b a) 1 = moF f 1 + gaE (f 2) (prF f b a) := by
      show plF f b a 8 + plF f b a 1 = f 8 + f 1 + gaE (f 2) (prF f b a)
      rw [p8, p1, show gaF f (prF f b a) = gaE (f 2) (prF f b a) from rfl]; omega
    rcases hp with rfl | rfl
    · have t0 : twF (plF f b a) 0 = twF f 0 + -1 := by
        show plF f b a 0 - plF f b a 4 = f 0 - f 4 + -1
        rw [p0, p4]; omega
      show tT (plF f b a 0) (plF f b a 3) (plF f b a 2) (twF (plF f b a) 0) (moF (plF f b a) 0) (moF (plF f b a) 1) (bZ (0 = plF f b a 5)) = _
      rw [p5, hz, t0, m0, m1, p0, p3, p2]
      rfl
    · have t0 : twF (plF f b a) 1 = twF f 1 + 1 := by
        show plF f b a 0 + plF f b a 4 = f 0 + f 4 + 1
        rw [p0, p4]; omega
      show tT (plF f b a 0) (plF f b a 3) (plF f b a 2) (twF (plF f b a) 1) (moF (plF f b a) 1) (moF (plF f b a) 0) (bZ (1 = plF f b a 5)) = _
      rw [p5, hz, t0, m0, m1, p0, p3, p2]
      rfl
  · obtain ⟨p0, p1, p2, p3, p4, p5, p6, p7, p8, -⟩ := plF_at1 ht
    rw [ht]
    have m0 : moF (plF f b a) 1 = moF f 1 + -(prF f b a) := by
      show plF f b a 8 + plF f b a 1 = f 8 + f 1 + -(prF f b a)
      rw [p8, p1]; omega
    have m1 : moF (plF f b a) 0 = moF f 0 + gaE (f 2) (prF f b a) := by
      show plF f b a 7 + plF f b a 1 = f 7 + f 1 + gaE (f 2) (prF f b a)
      rw [p7, p1, show gaF f (prF f b a) = gaE (f 2) (prF f b a) from rfl]; omega
    rcases hp with rfl | rfl
    · have t0 : twF (plF f b a) 0 = twF f 0 + 1 := by
        show plF f b a 0 - plF f b a 4 = f 0 - f 4 + 1
        rw [p0, p4]; omega
      show tT (plF f b a 0) (plF f b a 3) (plF f b a 2) (twF (plF f b a) 0) (moF (plF f b a) 0) (moF (plF f b a) 1) (bZ (0 = plF f b a 5)) = _
      rw [p5, hz, t0, m0, m1, p0, p3, p2]
      rfl
    · have t0 : twF (plF f b a) 1 = twF f 1 + -1 := by
        show plF f b a 0 + plF f b a 4 = f 0 + f 4 + -1
        rw [p0, p4]; omega
      show tT (plF f b a 0) (plF f b a 3) (plF f b a 2) (twF (plF f b a) 1) (moF (plF f b a) 1) (moF (plF f b a) 0) (bZ (1 = plF f b a 5)) = _
      rw [p5, hz, t0, m0, m1, p0, p3, p2]
      rfl
theorem tbh_W {f : Int → Int} (ok : okF f) {p : Int} (hp : p = 0 ∨ p = 1) (b a : Int) : tbh f p b a = capT (WT (plF f b a) p) := by
  rw [bh_pl ok hp]
  rfl
theorem cap_le {x j : Int} (hj : j ≤ 7) : capT x ≤ j ↔ x ≤ j := by
  unfold capT
  split <;> omega
theorem cap_9 {x : Int} : capT x < 9 ↔ capT x ≤ 7 := by
  unfold capT
  split <;> omega
theorem bh_le {f : Int → Int} (ok : okF f) {p : Int} (hp : p = 0 ∨ p = 1) (b a : Int) {j : Nat} (hj : j ≤ 7) : WT (plF f b a) p ≤ j ↔ fc (f 0) (f 3) (f 2) j (twF f p + (if tkF f b a = p then -1 else 1)) (moF f p + (if tkF f b a = p then -(prF f b a) else gaE (f 2) (prF f b a))) (moF f (1 - p) + (if tkF f b a = p then gaE (f 2) (prF f b a) else -(prF f b a))) (bZ (¬ p = f 5)) := by
  rw [bh_pl ok hp]
  exact tT_le _ _ _ _ _ _ _ (by omega)
theorem tk_first {f : Int → Int} {b a : Int} (h : fst (f 3) b a) : tkF f b a = f 5 := if_pos h
theorem tk_other {f : Int → Int} {b a : Int} (h : ¬ fst (f 3) b a) : tkF f b a = 1 - f 5 := if_neg h
theorem pr_first {f : Int → Int} {b a : Int} (h : fst (f 3) b a) : prF f b a = b := if_pos (tk_first h)
theorem pr_other {f : Int → Int} (ok : okF f) {b a : Int} (h : ¬ fst (f 3) b a) : prF f b a = a := by
  unfold prF
  rw [tk_other h]
  have := ok.2.2.2.2.2.1
  exact if_neg (by omega)
theorem st_first {f : Int → Int} (ok : okF f) (hw : winF f = -1006) {j : Nat} (hj : j ≤ 7) : WT f (f 5) ≤ ((j + 1 : Nat) : Int) ↔ ∃ b, (0 ≤ b ∧ b ≤ moF f (f 5)) ∧ ∀ a, 0 ≤ a → a ≤ moF f (1 - f 5) → WT (plF f b a) (f 5) ≤ j := by
  have o5 := ok.2.2.2.2.2.1
  have ht := tw_in hw o5
  have hne : ¬ 1 - f 5 = f 5 := by omega
  rw [WT_le f (f 5) (by omega)]
  have hz : bZ (f 5 = f 5) = 1 := (bZ_t rfl).symm
  have hz2 : bZ (¬ f 5 = f 5) = 0 := (bZ_f (fun z => z rfl)).symm
  have hk : ∀ b a, WT (plF f b a) (f 5) ≤ j ↔ ((fst (f 3) b a → tkP (f 2) (fc (f 0) (f 3) (f 2) j) (twF f (f 5)) (moF f (f 5)) (moF f (1 - f 5)) b 0) ∧ (¬ fst (f 3) b a → lsP (f 2) (fc (f 0) (f 3) (f 2) j) (twF f (f 5)) (moF f (f 5)) (moF f (1 - f 5)) a 0)) := fun b a => by
    rw [bh_le ok o5 b a hj, hz2]
    rcases Classical.em (fst (f 3) b a) with q | q
    · rw [tk_first q, pr_first q, if_pos rfl, if_pos rfl, if_pos rfl]
      exact ⟨fun h => ⟨fun _ => h, fun z => absurd q z⟩, fun h => h.1 q⟩
    · rw [tk_other q, pr_other ok q, if_neg hne, if_neg hne, if_neg hne]
      exact ⟨fun h => ⟨fun z => absurd z q, fun _ => h⟩, fun h => h.2 q⟩
  rw [hz]
  constructor
  · intro h
    rcases h with h | ⟨-, h, -⟩
    · omega
    · obtain ⟨b, hb, g⟩ := h rfl
      exact ⟨b, hb, fun a a0 a1 => (hk b a).mpr (g a a0 a1)⟩
  · rintro ⟨b, hb, g⟩
    exact Or.inr ⟨ht.2, fun _ => ⟨b, hb, fun a a0 a1 => (hk b a).mp (g a a0 a1)⟩, fun z => absurd z (by decide)⟩
theorem st_other {f : Int → Int} (ok : okF f) (hw : winF f = -1006) {j : Nat} (hj : j ≤ 7) : WT f (1 - f 5) ≤ ((j + 1 : Nat) : Int) ↔ ∀ b, 0 ≤ b → b ≤ moF f (f 5) → ∃ a, (0 ≤ a ∧ a ≤ moF f (1 - f 5)) ∧ WT (plF f b a) (1 - f 5) ≤ j := by
  have o5 := ok.2.2.2.2.2.1
  have p5 : 1 - f 5 = 0 ∨ 1 - f 5 = 1 := by omega
  have ht := tw_in hw p5
  have hne : ¬ f 5 = 1 - f 5 := by omega
  have h11 : 1 - (1 - f 5) = f 5 := by omega
  rw [WT_le f (1 - f 5) (by omega)]
  have hz : bZ (1 - f 5 = f 5) = 0 := (bZ_f (by omega)).symm
  have hz2 : bZ (¬ 1 - f 5 = f 5) = 1 := (bZ_t (by omega)).symm
  have hk : ∀ b a, WT (plF f b a) (1 - f 5) ≤ j ↔ ((fst (f 3) b a → lsP (f 2) (fc (f 0) (f 3) (f 2) j) (twF f (1 - f 5)) (moF f (1 - f 5)) (moF f (f 5)) b 1) ∧ (¬ fst (f 3) b a → tkP (f 2) (fc (f 0) (f 3) (f 2) j) (twF f (1 - f 5)) (moF f (1 - f 5)) (moF f (f 5)) a 1)) := fun b a => by
    rw [bh_le ok p5 b a hj, hz2, h11]
    rcases Classical.em (fst (f 3) b a) with q | q
    · rw [tk_first q, pr_first q, if_neg hne, if_neg hne, if_neg hne]
      exact ⟨fun h => ⟨fun _ => h, fun z => absurd q z⟩, fun h => h.1 q⟩
    · rw [tk_other q, pr_other ok q, if_pos rfl, if_pos rfl, if_pos rfl]
      exact ⟨fun h => ⟨fun z => absurd z q, fun _ => h⟩, fun h => h.2 q⟩
  rw [hz, h11]
  constructor
  · intro h b b0 b1
    rcases h with h | ⟨-, -, h⟩
    · omega
    · obtain ⟨a, ha, g⟩ := h rfl b b0 b1
      exact ⟨a, ha, (hk b a).mpr g⟩
  · intro h
    refine Or.inr ⟨ht.2, fun z => absurd z (by decide), fun _ b b0 b1 => ?_⟩
    obtain ⟨a, ha, g⟩ := h b b0 b1
    obtain ⟨g1, g2⟩ := (hk b a).mp g
    exact ⟨a, ha, g1, g2⟩
theorem mxU_le {h : Int → Int} {t : Int} (ht : 0 ≤ t) : ∀ n : Nat, mxU h 0 n ≤ t ↔ ∀ i : Nat, i < n → h i ≤ t := by
  intro n
  induction n with
  | zero => exact ⟨fun _ i hi => absurd hi (Nat.not_lt_zero i), fun _ => ht⟩
  | succ n ih =>
    have e : mxU h 0 (n + 1) ≤ t ↔ mxU h 0 n ≤ t ∧ h n ≤ t := by
      show mx (mxU h 0 n) (h n) ≤ t ↔ _
      unfold mx
      split <;> omega
    rw [e, ih]
    constructor
    · rintro ⟨h1, h2⟩ i hi
      rcases Nat.lt_or_ge i n with q | q
      · exact h1 i q
      · rw [show i = n by omega]; exact h2
    · exact fun z => ⟨fun i hi => z i (by omega), z n (by omega)⟩
theorem mnU_ag {h : Int → Int} (h9 : ∀ x, h x ≤ 9) {t : Int} (ht : t < 9) : ∀ n : Nat, (∃ i : Nat, i < n ∧ h i ≤ t) → mnU h 9 n ≤ t ∧ h (agU h 9 n) = mnU h 9 n := by
  have key : ∀ n : Nat, mnU h 9 n ≤ 9 ∧ (mnU h 9 n < 9 → h (agU h 9 n) = mnU h 9 n) ∧ ∀ i : Nat, i < n → mnU h 9 n ≤ h i := by
    intro n
    induction n with
    | zero => exact ⟨Int.le_refl 9, fun z => absurd z (by show ¬ (9 : Int) < 9; decide), fun i hi => absurd hi (Nat.not_lt_zero i)⟩
    | succ n ih =>
      obtain ⟨i1, i2, i3⟩ := ih
      have em : mnU h 9 (n + 1) = if h n < mnU h 9 n then h n else mnU h 9 n := rfl
      have ea : agU h 9 (n + 1) = if h n < mnU h 9 n then (n : Int) else agU h 9 n := rfl
      rw [em, ea]
      have := h9 n
      split
      · next q =>
        refine ⟨this, fun _ => rfl, fun i hi => ?_⟩
        rcases Nat.lt_or_ge i n with w | w
        · have := i3 i w
          omega
        · rw [show i = n by omega]; exact Int.le_refl _
      · next q =>
        refine ⟨i1, i2, fun i hi => ?_⟩
        rcases Nat.lt_or_ge i n with w | w
        · exact i3 i w
        · rw [show i = n by omega]; omega
  rintro n ⟨i, hi, hh⟩
  obtain ⟨k1, k2, k3⟩ := key n
  have := k3 i hi
  exact ⟨by omega, k2 (by omega)⟩
theorem cnU_pos {h : Int → Int} : ∀ n : Nat, 0 < cnU h n ↔ ∃ i : Nat, i < n ∧ h i < 9 := by
  intro n
  induction n with
  | zero => exact ⟨fun z => absurd z (by show ¬ (0 : Int) < 0; decide), fun ⟨i, hi, _⟩ => absurd hi (Nat.not_lt_zero i)⟩
  | succ n ih =>
    have e : cnU h (n + 1) = cnU h n + (if h n < 9 then 1 else 0) := rfl
    have hb := (cnU_b h n).1
    rw [e]
    constructor
    · intro z
      by_cases q : h n < 9
      · exact ⟨n, Nat.lt_succ_self n, q⟩
      · rw [if_neg q] at z
        obtain ⟨i, hi, hh⟩ := ih.mp (by omega)
        exact ⟨i, by omega, hh⟩
    · rintro ⟨i, hi, hh⟩
      by_cases q : h n < 9
      · rw [if_pos q]; omega
      · rw [if_neg q]
        have : i ≠ n := fun z => q (by rw [← z]; exact hh)
        have := ih.mpr ⟨i, by omega, hh⟩
        omega
/-- all times behind a bid -/
theorem lo_le {f : Int → Int} (ok : okF f) (b : Int) {j : Int} (h0 : 0 ≤ j) (hj : j ≤ 7) : loF f b ≤ j ↔ ∀ a, 0 ≤ a → a ≤ moF f (1 - f 5) → WT (plF f b a) (f 5) ≤ j := by
  have o5 := ok.2.2.2.2.2.1
  have hn := nmF_e ok (1 - f 5)
  unfold loF
  rw [mxU_le h0]
  constructor
  · intro h a a0 a1
    have := h a.toNat (by omega)
    rw [Int.toNat_of_nonneg a0, tbh_W ok o5, cap_le hj] at this
    exact this
  · intro h i hi
    show tbh f (f 5) b i ≤ j
    rw [tbh_W ok o5, cap_le hj]
    exact h i (by omega) (by omega)
theorem lo_9 {f : Int → Int} (ok : okF f) (b : Int) : loF f b < 9 ↔ loF f b ≤ 7 := by
  have o5 := ok.2.2.2.2.2.1
  constructor
  · intro h
    have h : loF f b ≤ 8 := by omega
    unfold loF at h ⊢
    rw [mxU_le (by decide)] at h ⊢
    intro i hi
    have := h i hi
    have this : tbh f (f 5) b i ≤ 8 := this
    show tbh f (f 5) b i ≤ 7
    rw [tbh_W ok o5] at this ⊢
    exact cap_9.mp (by omega)
  · omega
theorem fb_best {f : Int → Int} (ok : okF f) (hw : winF f = -1006) {j : Nat} (hj : j ≤ 7) (h : WT f (f 5) ≤ ((j + 1 : Nat) : Int)) : ∀ a, 0 ≤ a → a ≤ moF f (1 - f 5) → WT (plF f (fbF f) a) (f 5) ≤ j := by
  obtain ⟨b, hb, g⟩ := (st_first ok hw hj).mp h
  have hn := nmF_e ok (f 5)
  have h1 : loF f b ≤ j := (lo_le ok b (by omega) (by omega)).mpr g
  have hx := mnU_ag (h := loF f) (fun x => (loF_b f x).2) (t := j) (by omega) (nmF f (f 5)) ⟨b.toNat, by omega, by rw [Int.toNat_of_nonneg hb.1]; exact h1⟩
  have e : fbF f = agU (loF f) 9 (nmF f (f 5)) := if_pos (by omega)
  rw [e]
  exact (lo_le ok _ (by omega) (by omega)).mp (by rw [hx.2]; exact hx.1)
theorem fa_best {f : Int → Int} (ok : okF f) (hw : winF f = -1006) {j : Nat} (hj : j ≤ 7) (h : WT f (1 - f 5) ≤ ((j + 1 : Nat) : Int)) {b : Int} (hb : 0 ≤ b ∧ b ≤ moF f (f 5)) : WT (plF f b (faF f b)) (1 - f 5) ≤ j := by
  have o5 := ok.2.2.2.2.2.1
  have p5 : 1 - f 5 = 0 ∨ 1 - f 5 = 1 := by omega
  obtain ⟨a, ha, g⟩ := (st_other ok hw hj).mp h b hb.1 hb.2
  have hn := nmF_e ok (1 - f 5)
  have h1 : tbh f (1 - f 5) b a ≤ j := by rw [tbh_W ok p5]; exact (cap_le (by omega)).mpr g
  have hx := mnU_ag (h := fun a => tbh f (1 - f 5) b a) (fun x => (tbh_b f _ b x).2) (t := j) (by omega) (nmF f (1 - f 5)) ⟨a.toNat, by omega, by show tbh f (1 - f 5) b (a.toNat : Int) ≤ j; rw [Int.toNat_of_nonneg ha.1]; exact h1⟩
  have e : faF f b = agU (fun a => tbh f (1 - f 5) b a) 9 (nmF f (1 - f 5)) := if_pos (by omega)
  have h2 : tbh f (1 - f 5) b (faF f b) ≤ j := by
    rw [e]
    have := hx.2
    have this : tbh f (1 - f 5) b (agU (fun a => tbh f (1 - f 5) b a) 9 (nmF f (1 - f 5))) = mnU (fun a => tbh f (1 - f 5) b a) 9 (nmF f (1 - f 5)) := this
    rw [this]
    exact hx.1
  rw [tbh_W ok p5] at h2
  exact (cap_le (by omega)).mp h2
/-- play() brings both a round nearer -/
theorem play_W {f : Int → Int} (ok : okF f) (hw : winF f = -1006) {p : Int} (hp : p = f 5 ∨ p = 1 - f 5) (h : WT f p ≤ 8) : WT (plF f (fbF f) (faF f (fbF f))) p ≤ WT f p - 1 := by
  have o5 := ok.2.2.2.2.2.1
  have p5 : p = 0 ∨ p = 1 := by omega
  have h1 := WT_n0 hw p5
  have hb := fbF_b ok
  have ha := faF_b ok (fbF f)
  obtain ⟨j, hj⟩ : ∃ j : Nat, WT f p = ((j + 1 : Nat) : Int) := ⟨(WT f p - 1).toNat, by omega⟩
  have e : WT f p - 1 = (j : Int) := by omega
  rw [e]
  rcases hp with rfl | rfl
  · exact fb_best ok hw (by omega) (by omega) _ ha.1 ha.2
  · exact fa_best ok hw (by omega) (by omega) hb
theorem ck_pos {f : Int → Int} (ok : okF f) (hw : winF f = -1006) : 0 < ckF f ↔ WT f (f 5) ≤ 8 := by
  have hn := nmF_e ok (f 5)
  unfold ckF
  rw [cnU_pos]
  refine Iff.trans ?_ (st_first ok hw (j := 7) (by decide)).symm
  constructor
  · rintro ⟨i, hi, h⟩
    exact ⟨i, by omega, (lo_le ok _ (by decide) (by decide)).mp ((lo_9 ok _).mp h)⟩
  · rintro ⟨b, hb, g⟩
    refine ⟨b.toNat, by omega, (lo_9 ok _).mpr ((lo_le ok _ (by decide) (by decide)).mpr ?_)⟩
    rw [Int.toNat_of_nonneg hb.1]
    exact g
theorem ck_b {f : Int → Int} (ok : okF f) : 0 ≤ ckF f ∧ ckF f ≤ moF f (f 5) + 1 := by
  have hn := nmF_e ok (f 5)
  have := cnU_b (loF f) (nmF f (f 5))
  unfold ckF
  omega
/-- the time as it is told -/
noncomputable def tmF (f : Int → Int) (p : Int) : Int := if WT f p < 9 then WT f p else -1006
theorem tm_c (f : Int → Int) (p : Int) : (tmF f p = -1006 ∧ WT f p = 9) ∨ (tmF f p = WT f p ∧ 0 ≤ WT f p ∧ WT f p ≤ 8) := by
  have := WT_b f p
  unfold tmF
  split
  · exact Or.inr ⟨rfl, by omega, by omega⟩
  · exact Or.inl ⟨rfl, by omega⟩
theorem tm_ex {f : Int → Int} (ok : okF f) : tmF f 0 = -1006 ∨ tmF f 1 = -1006 := by
  have h := WT_ex ok
  rcases tm_c f 0 with h0 | h0
  · exact Or.inl h0.1
  · rcases tm_c f 1 with h1 | h1
    · exact Or.inr h1.1
    · exact absurd ⟨h0.2.2, h1.2.2⟩ h
theorem tm_b (f : Int → Int) (p : Int) : tmF f p = -1006 ∨ (0 ≤ tmF f p ∧ tmF f p ≤ 8) := by
  rcases tm_c f p with h | h
  · exact Or.inl h.1
  · rw [h.1]; exact Or.inr h.2
theorem tm_won {f : Int → Int} {p : Int} (hp : p = 0 ∨ p = 1) (h : winF f = p) : tmF f p = 0 := by
  have := WT_won hp h
  rcases tm_c f p with q | q <;> omega
theorem tm_n0 {f : Int → Int} (hw : winF f = -1006) {p : Int} (hp : p = 0 ∨ p = 1) : ¬ tmF f p = 0 := by
  have := WT_n0 hw hp
  rcases tm_c f p with q | q <;> omega
theorem tm_play {f : Int → Int} (ok : okF f) (hw : winF f = -1006) {p : Int} (hp : p = f 5 ∨ p = 1 - f 5) (h : 0 ≤ tmF f p) : 0 ≤ tmF (plF f (fbF f) (faF f (fbF f))) p ∧ tmF (plF f (fbF f) (faF f (fbF f))) p ≤ tmF f p - 1 := by
  rcases tm_c f p with q | q
  · omega
  · have h1 := play_W ok hw hp q.2.2
    rcases tm_c (plF f (fbF f) (faF f (fbF f))) p with w | w <;> omega
theorem tm_ck {f : Int → Int} (ok : okF f) (hw : winF f = -1006) : 0 < ckF f ↔ 0 ≤ tmF f (f 5) := by
  rw [ck_pos ok hw]
  rcases tm_c f (f 5) with q | q <;> omega
theorem fo_1 {f : Int → Int} {p r m : Int} (hp : p = 0 ∨ p = 1) (hr : 0 ≤ r ∧ r ≤ m) (h0 : 0 ≤ tmF f p) (h : tmF f p ≤ r) : foF f p r m = 1 := by
  unfold foF
  rw [if_neg (fun z => z hp), if_neg (fun z => z hr)]
  refine bC_t ?_
  show WT f p ≤ r
  rcases tm_c f p with q | q <;> omega
theorem fo_0 {f : Int → Int} {p r m : Int} (hp : p = 0 ∨ p = 1) (hr : 0 ≤ r ∧ r ≤ m) (h8 : r ≤ 8) (h : tmF f p < 0 ∨ r < tmF f p) : foF f p r m = 0 := by
  unfold foF
  rw [if_neg (fun z => z hp), if_neg (fun z => z hr)]
  refine bC_f ?_
  show ¬ WT f p ≤ r
  rcases tm_c f p with q | q <;> omega
theorem fo_m {f : Int → Int} {p r m : Int} (hp : p = 0 ∨ p = 1) (hr : 0 ≤ r ∧ r ≤ m) (h8 : r ≤ 8) : foF f p r m = foF f p r 8 := by
  unfold foF
  rw [if_neg (fun z => z hp), if_neg (fun z => z hr), if_neg (fun z => z hp), if_neg (fun z => z ⟨hr.1, h8⟩)]
