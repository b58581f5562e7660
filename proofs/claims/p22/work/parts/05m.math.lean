/-! 05m.math: forced wins. A state is seen by one player: tw cells to its end, it may bid o, the other one f, b = 1 if it bids first. E: END, ti: TIE, ps: PAYS -/
noncomputable def bC (P : Prop) : Int := @ite _ P (Classical.propDecidable P) 1 0
theorem bC_t {P : Prop} (h : P) : bC P = 1 := if_pos h
theorem bC_f {P : Prop} (h : ¬ P) : bC P = 0 := if_neg h
theorem bC_01 (P : Prop) : bC P = 0 ∨ bC P = 1 := by
  rcases Classical.em P with h | h
  · exact Or.inr (bC_t h)
  · exact Or.inl (bC_f h)
theorem bC_lo (P : Prop) : -2147483648 ≤ bC P := by have := bC_01 P; omega
theorem bC_hi (P : Prop) : bC P < 2147483648 := by have := bC_01 P; omega
theorem bC_0 {P : Prop} (h : bC P = 0) : ¬ P := fun q => by rw [bC_t q] at h; omega
theorem bC_1 {P : Prop} (h : ¬ bC P = 0) : P := Classical.byContradiction fun q => h (bC_f q)
theorem bC_c {P Q : Prop} (h : P ↔ Q) : bC P = bC Q := by rw [propext h]
theorem bZ_bC (P : Prop) [Decidable P] : bZ P = bC P := by
  rcases Classical.em P with h | h
  · rw [bC_t h, ← bZ_t h]
  · rw [bC_f h, ← bZ_f h]
theorem nar_bC (P : Prop) : narrow .boolean (.int (iI (bC P))) = .int (iI (bC P)) := nar_b (bC_01 P)
def mx (x y : Int) : Int := if x < y then y else x
def mn (x y : Int) : Int := if y < x then y else x
abbrev qP : Type := Int → Int → Int → Int → Prop
def tkP (ps : Int) (P : qP) (tw o f p b : Int) : Prop := P (tw - 1) (o - p) (f + gaE ps p) b
def lsP (ps : Int) (P : qP) (tw o f p b : Int) : Prop := P (tw + 1) (o + gaE ps p) (f - p) b
def fst (ti bid ans : Int) : Prop := ans < bid ∨ (bid = ans ∧ ti = 0)
def bidP (ti ps : Int) (P : qP) (tw o f : Int) : Prop := ∃ bid, (0 ≤ bid ∧ bid ≤ o) ∧ ∀ ans, 0 ≤ ans → ans ≤ f → (fst ti bid ans → tkP ps P tw o f bid 0) ∧ (¬ fst ti bid ans → lsP ps P tw o f ans 0)
def ansP (ti ps : Int) (P : qP) (tw o f : Int) : Prop := ∀ bid, 0 ≤ bid → bid ≤ f → ∃ ans, (0 ≤ ans ∧ ans ≤ o) ∧ (fst ti bid ans → lsP ps P tw o f bid 1) ∧ (¬ fst ti bid ans → tkP ps P tw o f ans 1)
def stP (E ti ps : Int) (P : qP) : qP := fun tw o f b => tw ≤ 0 ∨ (tw < 2 * E ∧ (b = 1 → bidP ti ps P tw o f) ∧ (b = 0 → ansP ti ps P tw o f))
def fc (E ti ps : Int) : Nat → qP
  | 0 => fun tw _ _ _ => tw ≤ 0
  | k + 1 => stP E ti ps (fc E ti ps k)
theorem bidP_mono {ti ps : Int} {P Q : qP} {tw o f : Int} (hP : ∀ bid, 0 ≤ bid → bid ≤ o → tkP ps P tw o f bid 0 → tkP ps Q tw o f bid 0) (hL : ∀ ans, 0 ≤ ans → ans ≤ f → lsP ps P tw o f ans 0 → lsP ps Q tw o f ans 0) (h : bidP ti ps P tw o f) : bidP ti ps Q tw o f := by
  obtain ⟨bid, hb, h⟩ := h
  exact ⟨bid, hb, fun ans h1 h2 => ⟨fun q => hP bid hb.1 hb.2 ((h ans h1 h2).1 q), fun q => hL ans h1 h2 ((h ans h1 h2).2 q)⟩⟩
theorem ansP_mono {ti ps : Int} {P Q : qP} {tw o f : Int} (hP : ∀ ans, 0 ≤ ans → ans ≤ o → tkP ps P tw o f ans 1 → tkP ps Q tw o f ans 1) (hL : ∀ bid, 0 ≤ bid → bid ≤ f → lsP ps P tw o f bid 1 → lsP ps Q tw o f bid 1) (h : ansP ti ps P tw o f) : ansP ti ps Q tw o f := by
  intro bid h1 h2
  obtain ⟨ans, ha, g1, g2⟩ := h bid h1 h2
  exact ⟨ans, ha, fun q => hL bid h1 h2 (g1 q), fun q => hP ans ha.1 ha.2 (g2 q)⟩
/-- the states that can come of a sum (PAYS 0), or of a most (PAYS 1) -/
def vd (E ps top tw o f : Int) : Prop := 0 ≤ tw ∧ tw ≤ 2 * E ∧ 0 ≤ o ∧ 0 ≤ f ∧ (ps = 0 → o + f = top) ∧ (ps = 1 → o ≤ top ∧ f ≤ top)
theorem gaE0 {ps x : Int} (h : ps = 0) : gaE ps x = x := if_pos h
theorem gaE1 {ps x : Int} (h : ps = 1) : gaE ps x = 0 := if_neg (by omega)
theorem vd_tk {E ps top tw o f p : Int} (hps : ps = 0 ∨ ps = 1) (h : vd E ps top tw o f) (h0 : 0 < tw) (p0 : 0 ≤ p) (p1 : p ≤ o) : vd E ps top (tw - 1) (o - p) (f + gaE ps p) := by
  obtain ⟨h1, h2, h3, h4, h5, h6⟩ := h
  rcases hps with q | q
  · rw [gaE0 q]
    have := h5 q
    exact ⟨by omega, by omega, by omega, by omega, fun _ => by omega, fun z => by omega⟩
  · rw [gaE1 q]
    have := h6 q
    exact ⟨by omega, by omega, by omega, by omega, fun z => by omega, fun _ => by omega⟩
theorem vd_ls {E ps top tw o f p : Int} (hps : ps = 0 ∨ ps = 1) (h : vd E ps top tw o f) (h0 : tw < 2 * E) (p0 : 0 ≤ p) (p1 : p ≤ f) : vd E ps top (tw + 1) (o + gaE ps p) (f - p) := by
  obtain ⟨h1, h2, h3, h4, h5, h6⟩ := h
  rcases hps with q | q
  · rw [gaE0 q]
    have := h5 q
    exact ⟨by omega, by omega, by omega, by omega, fun _ => by omega, fun z => by omega⟩
  · rw [gaE1 q]
    have := h6 q
    exact ⟨by omega, by omega, by omega, by omega, fun z => by omega, fun _ => by omega⟩
/-- a step sees the states behind a round alone -/
theorem stP_mono {E ti ps top : Int} {P Q : qP} (hps : ps = 0 ∨ ps = 1) (hPQ : ∀ tw o f b, vd E ps top tw o f → (b = 0 ∨ b = 1) → P tw o f b → Q tw o f b) {tw o f b : Int} (hv : vd E ps top tw o f) (h : stP E ti ps P tw o f b) : stP E ti ps Q tw o f b := by
  rcases Classical.em (tw ≤ 0) with h0 | h0
  · exact Or.inl h0
  · rcases h with h | ⟨h1, h2, h3⟩
    · exact Or.inl h
    · refine Or.inr ⟨h1, fun q => bidP_mono ?_ ?_ (h2 q), fun q => ansP_mono ?_ ?_ (h3 q)⟩
      · exact fun x x0 x1 hx => hPQ _ _ _ _ (vd_tk hps hv (by omega) x0 x1) (Or.inl rfl) hx
      · exact fun x x0 x1 hx => hPQ _ _ _ _ (vd_ls hps hv h1 x0 x1) (Or.inl rfl) hx
      · exact fun x x0 x1 hx => hPQ _ _ _ _ (vd_tk hps hv (by omega) x0 x1) (Or.inr rfl) hx
      · exact fun x x0 x1 hx => hPQ _ _ _ _ (vd_ls hps hv h1 x0 x1) (Or.inr rfl) hx
theorem stP_c {E ti ps top : Int} {P Q : qP} (hps : ps = 0 ∨ ps = 1) (hPQ : ∀ tw o f b, vd E ps top tw o f → (b = 0 ∨ b = 1) → (P tw o f b ↔ Q tw o f b)) {tw o f b : Int} (hv : vd E ps top tw o f) : stP E ti ps P tw o f b ↔ stP E ti ps Q tw o f b :=
  ⟨stP_mono hps (fun a b c d v e => (hPQ a b c d v e).mp) hv, stP_mono hps (fun a b c d v e => (hPQ a b c d v e).mpr) hv⟩
theorem stP_all {E ti ps : Int} {P Q : qP} (hPQ : ∀ tw o f b, P tw o f b → Q tw o f b) {tw o f b : Int} (h : stP E ti ps P tw o f b) : stP E ti ps Q tw o f b := by
  rcases h with h | ⟨h1, h2, h3⟩
  · exact Or.inl h
  · exact Or.inr ⟨h1, fun q => bidP_mono (fun _ _ _ z => hPQ _ _ _ _ z) (fun _ _ _ z => hPQ _ _ _ _ z) (h2 q), fun q => ansP_mono (fun _ _ _ z => hPQ _ _ _ _ z) (fun _ _ _ z => hPQ _ _ _ _ z) (h3 q)⟩
theorem fc_succ {E ti ps : Int} : ∀ (k : Nat) (tw o f b : Int), fc E ti ps k tw o f b → fc E ti ps (k + 1) tw o f b := by
  intro k
  induction k with
  | zero => exact fun tw o f b h => Or.inl h
  | succ k ih => exact fun tw o f b h => stP_all (fun a b c d z => ih a b c d z) h
theorem fc_mono {E ti ps : Int} {j k : Nat} (h : j ≤ k) {tw o f b : Int} (hf : fc E ti ps j tw o f b) : fc E ti ps k tw o f b := by
  induction k with
  | zero => rw [Nat.le_zero.mp h] at hf; exact hf
  | succ k ih =>
    rcases Nat.lt_or_ge j (k + 1) with q | q
    · exact fc_succ k tw o f b (ih (by omega))
    · rw [show j = k + 1 by omega] at hf; exact hf
theorem fc_far {E ti ps : Int} : ∀ (k : Nat) (tw o f b : Int), 0 ≤ o → 0 ≤ f → (b = 0 ∨ b = 1) → (∀ z, 0 ≤ z → 0 ≤ gaE ps z) → fc E ti ps k tw o f b → tw ≤ k := by
  intro k
  induction k with
  | zero => exact fun tw o f b _ _ _ _ h => h
  | succ k ih =>
    intro tw o f b ho hf hb hg h
    rcases h with h | ⟨h1, h2, h3⟩
    · omega
    · rcases hb with rfl | rfl
      · obtain ⟨ans, ha, g1, g2⟩ := h3 rfl 0 (Int.le_refl 0) hf
        rcases Classical.em (fst ti 0 ans) with q | q
        · have := ih _ _ _ _ (by have := hg 0 (Int.le_refl 0); omega) (by omega) (Or.inr rfl) hg (g1 q); omega
        · have := ih _ _ _ _ (by omega) (by have := hg ans ha.1; omega) (Or.inr rfl) hg (g2 q); omega
      · obtain ⟨bid, hb, g⟩ := h2 rfl
        obtain ⟨g1, g2⟩ := g 0 (Int.le_refl 0) hf
        rcases Classical.em (fst ti bid 0) with q | q
        · have := ih _ _ _ _ (by omega) (by have := hg bid hb.1; omega) (Or.inl rfl) hg (g1 q); omega
        · have := ih _ _ _ _ (by have := hg 0 (Int.le_refl 0); omega) (by omega) (Or.inl rfl) hg (g2 q); omega
theorem gaE_nn (ps : Int) {z : Int} (h : 0 ≤ z) : 0 ≤ gaE ps z := by unfold gaE; split <;> omega
/-- where one round more forces nothing more, no number of rounds does -/
theorem fc_stab {E ti ps top : Int} (hps : ps = 0 ∨ ps = 1) {k : Nat} (h : ∀ tw o f b, vd E ps top tw o f → (b = 0 ∨ b = 1) → fc E ti ps (k + 1) tw o f b → fc E ti ps k tw o f b) : ∀ (m : Nat), k ≤ m → ∀ tw o f b, vd E ps top tw o f → (b = 0 ∨ b = 1) → fc E ti ps m tw o f b → fc E ti ps k tw o f b := by
  intro m
  induction m with
  | zero => intro hm tw o f b _ _ hf; rw [Nat.le_zero.mp hm]; exact hf
  | succ m ih =>
    intro hm tw o f b hv hb hf
    rcases Nat.lt_or_ge m k with q | q
    · rw [show k = m + 1 by omega]; exact hf
    · exact h tw o f b hv hb (stP_mono hps (fun a b c d v e z => ih q a b c d v e z) hv hf)
theorem bid_eq {ti ps : Int} {P : qP} {tw o f x : Int} (hti : ti = 0 ∨ ti = 1) (hf : 0 ≤ f) (hx : -1 ≤ x ∧ x ≤ f) (h1 : ∀ a, x < a → a ≤ f → lsP ps P tw o f a 0) (h2 : x = -1 ∨ ¬ lsP ps P tw o f x 0) :
    (∃ bid, (mx 0 (x + ti) ≤ bid ∧ bid ≤ o) ∧ ((bid = 0 ∧ ti = 1) ∨ tkP ps P tw o f bid 0)) ↔ bidP ti ps P tw o f := by
  have hm : 0 ≤ mx 0 (x + ti) ∧ x + ti ≤ mx 0 (x + ti) ∧ (mx 0 (x + ti) = 0 ∨ mx 0 (x + ti) = x + ti) := by unfold mx; split <;> omega
  constructor
  · rintro ⟨bid, hb, h⟩
    refine ⟨bid, ⟨by omega, hb.2⟩, fun ans a0 a1 => ⟨fun q => ?_, fun q => ?_⟩⟩
    · rcases h with h | h
      · rcases q with q | q <;> omega
      · exact h
    · refine h1 ans ?_ a1
      unfold fst at q
      omega
  · rintro ⟨bid, hb, h⟩
    have h3 : x + ti ≤ bid := by
      rcases Classical.em (x = -1) with q | q
      · omega
      · have q2 : fst ti bid x := Classical.byContradiction fun z => (h2.resolve_left q) ((h x (by omega) hx.2).2 z)
        rcases q2 with z | z <;> omega
    refine ⟨bid, ⟨by omega, hb.2⟩, ?_⟩
    rcases Classical.em (bid = 0 ∧ ti = 1) with q | q
    · exact Or.inl q
    · refine Or.inr ((h 0 (Int.le_refl 0) hf).1 ?_)
      unfold fst
      omega
theorem ans_eq {ti ps : Int} {P : qP} {tw o f x : Int} (hti : ti = 0 ∨ ti = 1) (ho : 0 ≤ o) (hx : -1 ≤ x ∧ x ≤ o) (h1 : ∀ a, x < a → a ≤ o → ¬ tkP ps P tw o f a 1) (h2 : x = -1 ∨ tkP ps P tw o f x 1) :
    (∀ bid, mx 0 (x + ti) ≤ bid → bid ≤ f → ¬ (bid = 0 ∧ ti = 1) ∧ lsP ps P tw o f bid 1) ↔ ansP ti ps P tw o f := by
  have hm : 0 ≤ mx 0 (x + ti) ∧ x + ti ≤ mx 0 (x + ti) ∧ (mx 0 (x + ti) = 0 ∨ mx 0 (x + ti) = x + ti) := by unfold mx; split <;> omega
  constructor
  · intro h bid b0 b1
    rcases Classical.em (mx 0 (x + ti) ≤ bid) with q | q
    · obtain ⟨g1, g2⟩ := h bid q b1
      refine ⟨0, ⟨Int.le_refl 0, ho⟩, fun _ => g2, fun z => ?_⟩
      unfold fst at z
      omega
    · refine ⟨x, ⟨by omega, hx.2⟩, fun z => ?_, fun _ => h2.resolve_left (by omega)⟩
      unfold fst at z
      omega
  · intro h bid b0 b1
    obtain ⟨ans, ha, g1, g2⟩ := h bid (by omega) b1
    have q : fst ti bid ans := Classical.byContradiction fun z => by
      have z2 := g2 z
      rcases Classical.em (x < ans) with w | w
      · exact h1 ans w ha.2 z2
      · unfold fst at z
        omega
    refine ⟨fun z => ?_, g1 q⟩
    unfold fst at q
    omega
/-- the time: the least number of rounds, 0 to 8; 9: there is none -/
noncomputable def tT (E ti ps tw o f b : Int) : Int :=
  9 - (bC (fc E ti ps 0 tw o f b) + bC (fc E ti ps 1 tw o f b) + bC (fc E ti ps 2 tw o f b) + bC (fc E ti ps 3 tw o f b) + bC (fc E ti ps 4 tw o f b) + bC (fc E ti ps 5 tw o f b) + bC (fc E ti ps 6 tw o f b) + bC (fc E ti ps 7 tw o f b) + bC (fc E ti ps 8 tw o f b))
theorem bC_le {P Q : Prop} (h : P → Q) : bC P ≤ bC Q := by
  rcases Classical.em P with p | p
  · rw [bC_t p, bC_t (h p)]; exact Int.le_refl 1
  · rw [bC_f p]; have := bC_01 Q; omega
theorem bC_iff {P : Prop} : P ↔ bC P = 1 := ⟨bC_t, fun h => Classical.byContradiction fun q => by rw [bC_f q] at h; omega⟩
theorem tT_b (E ti ps tw o f b : Int) : 0 ≤ tT E ti ps tw o f b ∧ tT E ti ps tw o f b ≤ 9 := by
  have h0 := bC_01 (fc E ti ps 0 tw o f b)
  have h1 := bC_01 (fc E ti ps 1 tw o f b)
  have h2 := bC_01 (fc E ti ps 2 tw o f b)
  have h3 := bC_01 (fc E ti ps 3 tw o f b)
  have h4 := bC_01 (fc E ti ps 4 tw o f b)
  have h5 := bC_01 (fc E ti ps 5 tw o f b)
  have h6 := bC_01 (fc E ti ps 6 tw o f b)
  have h7 := bC_01 (fc E ti ps 7 tw o f b)
  have h8 := bC_01 (fc E ti ps 8 tw o f b)
  unfold tT
  omega
theorem tT_le (E ti ps tw o f b : Int) {j : Nat} (hj : j ≤ 8) : tT E ti ps tw o f b ≤ j ↔ fc E ti ps j tw o f b := by
  have b0 := bC_01 (fc E ti ps 0 tw o f b)
  have b8 := bC_01 (fc E ti ps 8 tw o f b)
  have h0 := bC_le (fc_succ (E := E) (ti := ti) (ps := ps) 0 tw o f b)
  have h1 := bC_le (fc_succ (E := E) (ti := ti) (ps := ps) 1 tw o f b)
  have h2 := bC_le (fc_succ (E := E) (ti := ti) (ps := ps) 2 tw o f b)
  have h3 := bC_le (fc_succ (E := E) (ti := ti) (ps := ps) 3 tw o f b)
  have h4 := bC_le (fc_succ (E := E) (ti := ti) (ps := ps) 4 tw o f b)
  have h5 := bC_le (fc_succ (E := E) (ti := ti) (ps := ps) 5 tw o f b)
  have h6 := bC_le (fc_succ (E := E) (ti := ti) (ps := ps) 6 tw o f b)
  have h7 := bC_le (fc_succ (E := E) (ti := ti) (ps := ps) 7 tw o f b)
  rw [bC_iff (P := fc E ti ps j tw o f b)]
  unfold tT
  have hc : j = 0 ∨ j = 1 ∨ j = 2 ∨ j = 3 ∨ j = 4 ∨ j = 5 ∨ j = 6 ∨ j = 7 ∨ j = 8 := by omega
  rcases hc with rfl | rfl | rfl | rfl | rfl | rfl | rfl | rfl | rfl <;> (simp only [Nat.zero_add, Nat.reduceAdd] at h0 h1 h2 h3 h4 h5 h6 h7 ⊢; omega)
/-- a number that says what up to m rounds force -/
def tB (E ti ps : Int) (m : Nat) (v tw o f b : Int) : Prop := 0 ≤ v ∧ (v ≤ m ∨ v = 9) ∧ ∀ j : Nat, j ≤ m → (v ≤ j ↔ fc E ti ps j tw o f b)
theorem tB_8 {E ti ps v tw o f b : Int} (h : tB E ti ps 8 v tw o f b) : v = tT E ti ps tw o f b := by
  obtain ⟨h1, h2, h3⟩ := h
  have hb := tT_b E ti ps tw o f b
  rcases Int.lt_trichotomy v (tT E ti ps tw o f b) with q | q | q
  · exfalso
    have := (tT_le E ti ps tw o f b (j := v.toNat) (by omega)).mpr ((h3 v.toNat (by omega)).mp (by omega))
    omega
  · exact q
  · exfalso
    have := (h3 (tT E ti ps tw o f b).toNat (by omega)).mpr ((tT_le E ti ps tw o f b (j := (tT E ti ps tw o f b).toNat) (by omega)).mp (by omega))
    omega
